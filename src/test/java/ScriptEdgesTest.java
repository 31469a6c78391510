import java.util.NoSuchElementException;

/** "Scripts" of the document and promises 55 to 58: a test for each sentence that names a boundary. */
public final class ScriptEdgesTest {
    private static final Class<IllegalArgumentException> FORM = IllegalArgumentException.class;
    private static final Class<IllegalStateException> FAILED = IllegalStateException.class;

    /** Each is of the form, and together they have every part of it at its shortest and at its longest. */
    private static final String[] COMMANDS = {"button", "bond 0-9 1", "bond 9-0 123", "cut 0-1", "file 0>1 1 2 3:a",
        "file 9>8 123 0 999:abcdefgh", "rule 5:z", "rule 100:zyxwvuts", "hear 0", "hear 999", "appeal 1", "appeal 012",
        "drop 3", "drop 345", "close 0", "close 000", "give 0>1 1", "give 8>9 999", "wait 1", "wait 099"};

    private ScriptEdgesTest() {
    }

    public static void main(String[] args) {
        typedCharacters();
        typedInto60();
        longestScript();
        endsTooEarly();
        everyCommandCutOff();
        everyCharacterReplaced();
        errorsAtTheEnds();
        digits();
        numbersOfThreeDigits();
        matters();
        repetitions();
        commandsAreCalls();
        argumentsAtTheEnds();
        matterInPlaceOfTheWord();
        commandsSeeEarlierOnes();
        allOrNone();
        indexOfTheFailedCommand();
        everyExceptionFails();
        formComesFirst();
        bufferIsEmptyAfterwards();
        latestErrorAndFailure();
        Check.finish();
    }

    /** Promise 55: throws if the character code is not between 32 and 126. */
    private static void typedCharacters() {
        char[] wrong = {31, 127, 0, 10, 128, 255, 32 + 256, Character.MAX_VALUE};
        for (char sign : wrong) {
            Twins.refuses("type " + (int) sign, Make::inUse, FORM, it -> it.type(sign));
            Twins.refuses("type it first", ButtonRegistry::new, FORM, it -> it.type(sign));
        }
        ButtonRegistry registry = new ButtonRegistry();
        for (char sign = 32; sign <= 126; sign++) {
            Check.same("type " + (int) sign, 1, registry.type(sign));
            Make.refusedRun(registry, "");
        }
    }

    /** Promise 55: throws if the script buffer has 60 characters; a wrong character is told first. */
    private static void typedInto60() {
        ButtonRegistry registry = new ButtonRegistry();
        for (int i = 1; i <= 60; i++) {
            Check.same("type", i, registry.type('b'));
        }
        Twins.refuses("one more", ScriptEdgesTest::withFullBuffer, FAILED, it -> it.type('6'));
        Twins.refuses("a wrong one", ScriptEdgesTest::withFullBuffer, FORM, it -> it.type((char) 31));
        Twins.refuses("another wrong one", ScriptEdgesTest::withFullBuffer, FORM, it -> it.type((char) 127));
    }

    private static ButtonRegistry withFullBuffer() {
        ButtonRegistry registry = ready();
        Make.script(registry, "wait 1;wait 1;wait 1;wait 1;wait 1;wait 1;wait 1;rule 1:abcd");
        return registry;
    }

    /** "A script is typed into a buffer of at most 60 characters and then run": all 60 count. */
    private static void longestScript() {
        ButtonRegistry registry = withFullBuffer();
        int day = registry.day();
        Check.same("runScript", 8, registry.runScript());
        Check.same("day", day + 7, registry.day());
        Check.same("the last command", 1, registry.precedentPercentage(4));
        registry.clearWord();
        int id = Make.file(registry, "abcd", 0, 1, 1, 1, 1);
        Check.same("its letters", 0, registry.distance(id, 4));
    }

    /** "Or the length of the script if every character can and the script ends too early." */
    private static void endsTooEarly() {
        error("", 0);
        error("b", 1);
        error("button;", 7);
        error("wait ", 5);
        error("rule 5:", 7);
        String eight = "wait 1;wait 1;wait 1;wait 1;wait 1;wait 1;wait 1;wait 1;";
        error(eight, 56);
        error(eight + "wai", 59);
        error(eight + "wait", 60);
        error(eight.substring(7) + "file 0>1 9 ", 60);
    }

    private static void error(String script, int due) {
        ButtonRegistry registry = Make.withButtons(1);
        Make.script(registry, script);
        Check.fails("script " + script, FORM, registry::runScript);
        Check.same("error position of " + script, due, registry.errorPosition());
        Check.fails("no command failed", NoSuchElementException.class, registry::failedCommand);
        Check.same("no effect", 1, registry.buttonCount());
        Check.same("no day", 0, registry.day());
    }

    /** Every command that ends too early, alone and behind another one. */
    private static void everyCommandCutOff() {
        for (String command : COMMANDS) {
            int shortest = shortest(command);
            for (int length = 0; length < shortest; length++) {
                error(command.substring(0, length), length);
                error("button;" + command.substring(0, length), 7 + length);
            }
        }
    }

    /** The length where the command could end: a number or matter at its end may be shorter. */
    private static int shortest(String command) {
        if (command.equals("button") || command.startsWith("cut")) {
            return command.length();
        }
        return Math.max(command.lastIndexOf(' '), command.lastIndexOf(':')) + 2;
    }

    /** "The index of the first character that cannot continue any script", compared with the model's. */
    private static void everyCharacterReplaced() {
        for (String command : COMMANDS) {
            for (int at = 0; at <= command.length(); at++) {
                for (char sign = 32; sign <= 126; sign++) {
                    String rest = at < command.length() ? command.substring(at + 1) : "";
                    sameOutcome(command.substring(0, at) + sign + rest);
                }
            }
        }
    }

    private static void sameOutcome(String script) {
        ButtonRegistry registry = new ButtonRegistry();
        Model model = new Model();
        for (int i = 0; i < script.length(); i++) {
            registry.type(script.charAt(i));
            model.type(script.charAt(i));
        }
        Check.same("runScript " + script, Twins.answer(model::runScript), Twins.answer(registry::runScript));
        Check.same("error position " + script, Twins.answer(model::errorPosition),
                Twins.answer(registry::errorPosition));
        Check.same("failed command " + script, Twins.answer(model::failedCommand),
                Twins.answer(registry::failedCommand));
    }

    /** The first character, the last one, and the one behind a script that could end. */
    private static void errorsAtTheEnds() {
        error(";", 0);
        error("?", 0);
        error("Button", 0);
        error("1button", 0);
        error(" ", 0);
        error("buttom", 5);
        error("wait x", 5);
        error("button ", 6);
        error("button.button", 6);
        error("cut 0-1;;", 8);
        error("cut 0-1; cut 0-1", 8);
        String eight = "wait 1;wait 1;wait 1;wait 1;wait 1;wait 1;wait 1;wait 1;";
        error(eight + "wain", 59);
        error(eight + "vait", 56);
        error(eight + "w it", 57);
    }

    /** "digit": 0 and 9 are digits, the characters beside them are not. */
    private static void digits() {
        error("cut /-1", 4);
        error("cut :-1", 4);
        error("cut 9-/", 6);
        error("cut 0-:", 6);
        error("wait /", 5);
        error("wait :", 5);
        error("wait 0/", 6);
        error("wait 9:", 6);
        error("file 0>1 1 /", 11);
        error("file 0>1 1 :", 11);
        error("file 0>1 1 00", 12);
        error("cut 00-1", 5);
        error("cut 0-11", 7);
        error("give 0>11 1", 8);
        error("give -1>0 1", 5);
        ButtonRegistry registry = Make.withButtons(2);
        Make.script(registry, "cut 0-9");
        Check.fails("of the form, but no such button", FAILED, registry::runScript);
    }

    /** "number = digit [ digit [ digit ] ]". */
    private static void numbersOfThreeDigits() {
        String[] good = {"0", "9", "00", "09", "99", "000", "007", "990", "999"};
        for (String number : good) {
            ButtonRegistry registry = new ButtonRegistry();
            Make.script(registry, "hear " + number);
            Check.fails("of the form, but no such case", FAILED, registry::runScript);
        }
        error("hear ", 5);
        error("hear 1000", 8);
        error("hear 0000", 8);
        error("bond 0-1 0001", 12);
        error("file 0>1 0001 1 1:a", 12);
        error("file 0>1 1 1 0001:a", 16);
        error("rule 0001:a", 8);
        error("give 0>1 0001", 12);
        error("wait 0001", 8);
        error("wait 1 1", 6);
        error("wait +1", 5);
        Check.same("zeros in front", 1, Make.run(new ButtonRegistry(), "wait 001"));
        ButtonRegistry registry = new ButtonRegistry();
        Make.run(registry, "wait 009;wait 09;wait 9");
        Check.same("all three are 9", 27, registry.day());
    }

    /** "matter = letter { letter}", "where a matter has at most 8 letters". */
    private static void matters() {
        error("rule 1:", 7);
        error("rule 1:`", 7);
        error("rule 1:{", 7);
        error("rule 1:A", 7);
        error("rule 1:1", 7);
        error("rule 1:;", 7);
        error("rule 1:a`", 8);
        error("rule 1:z{", 8);
        error("rule 1: a", 7);
        error("rule 1:abcdefghi", 15);
        error("rule 1:abcdefgh ", 15);
        error("file 0>1 1 1 1:abcdefghi", 23);
        String[] good = {"a", "z", "az", "abcdefg", "abcdefgh", "zzzzzzzz"};
        for (String matter : good) {
            ButtonRegistry registry = Make.withButtons(2);
            Check.same("a good matter", 2, Make.run(registry, "file 0>1 1 1 1:" + matter + ";rule 1:" + matter));
            Check.same("of the case", matter, Look.matter(registry, 0));
            Check.same("of the precedent", 0, registry.distance(0, 0));
        }
    }

    /** "Braces mean zero or more repetitions", and promise 56 returns the number of commands. */
    private static void repetitions() {
        StringBuilder script = new StringBuilder();
        for (int commands = 1; commands <= 8; commands++) {
            script.append(commands == 1 ? "" : ";").append("button");
            ButtonRegistry registry = new ButtonRegistry();
            Check.same("runScript", commands, Make.run(registry, script.toString()));
            Check.same("buttons", commands, registry.buttonCount());
        }
    }

    /** Make.inUse() with an empty script buffer. */
    private static ButtonRegistry ready() {
        ButtonRegistry registry = Make.inUse();
        registry.runScript();
        return registry;
    }

    /** "The commands call ..., with the numbers as arguments in the same order": all is as after the call. */
    private static void commandsAreCalls() {
        sameAs("button", ButtonRegistry::addButton);
        sameAs("bond 2-1 20", it -> it.setBond(2, 1, 20));
        sameAs("bond 0-1 007", it -> it.setBond(0, 1, 7));
        sameAs("cut 1-0", it -> it.cutBond(1, 0));
        sameAs("hear 3", it -> it.hear(3));
        sameAs("appeal 1", it -> it.appeal(1));
        sameAs("drop 3", it -> it.withdraw(3));
        sameAs("close 2", it -> it.close(2));
        sameAs("give 0>2 10", it -> it.give(0, 2, 10));
        sameAs("wait 99", it -> it.passDays(99));
    }

    private static void sameAs(String script, Twins.Step call) {
        Twins.same(script, ScriptEdgesTest::ready, it -> Make.run(it, script), call);
    }

    /** The last numbers that the methods allow, and the first that they do not. */
    private static void argumentsAtTheEnds() {
        String[] good = {"bond 0-2 1", "bond 2-0 20", "rule 0:a", "rule 100:a", "file 0>1 1 1 0:a",
            "file 2>0 99 5 999:a", "hear 3", "appeal 1", "drop 3", "close 0", "give 0>1 1", "give 0>2 10", "wait 1",
            "wait 99"};
        for (String script : good) {
            Check.same(script, 1, Make.run(ready(), script));
        }
        String[] bad = {"bond 0-3 1", "bond 3-0 1", "bond 0-0 1", "bond 0-2 0", "bond 0-2 21", "cut 0-3", "cut 3-0",
            "cut 0-2", "cut 0-0", "rule 101:a", "rule 999:a", "file 0>3 1 1 0:a", "file 3>0 1 1 0:a",
            "file 1>1 1 1 0:a", "file 0>1 0 1 0:a", "file 0>1 100 1 0:a", "file 0>1 1 0 0:a", "file 0>1 1 6 0:a",
            "hear 0", "hear 4", "hear 5", "appeal 0", "appeal 2", "appeal 3", "appeal 4", "drop 1", "drop 4", "close 3",
            "close 4", "give 0>3 1", "give 3>0 1", "give 0>0 1", "give 0>1 0", "give 0>1 11", "give 1>0 1",
            "wait 0", "wait 100", "wait 999"};
        for (String script : bad) {
            ButtonRegistry registry = ready();
            Make.script(registry, script);
            Check.fails(script, FAILED, registry::runScript);
            Check.same("failed command of " + script, 0, registry.failedCommand());
        }
        ButtonRegistry full = Make.full("xy");
        String[] more = {"button", "rule 0:a", "file 0>1 1 1 1:a"};
        for (String script : more) {
            Make.script(full, script);
            Check.fails(script + " of too many", FAILED, full::runScript);
        }
    }

    /** "With the matter in place of the typed word": the word is neither needed nor taken nor emptied. */
    private static void matterInPlaceOfTheWord() {
        String[] words = {"", "q", "abcdefgh"};
        for (String word : words) {
            Twins.Maker maker = () -> {
                ButtonRegistry registry = ready();
                registry.clearWord();
                Make.word(registry, word);
                return registry;
            };
            Twins.same("rule", maker, it -> Make.run(it, "rule 44:seats"), it -> {
                it.clearWord();
                Make.precedent(it, "seats", 44);
                Make.word(it, word);
                return it;
            });
            Twins.same("file", maker, it -> Make.run(it, "file 2>1 9 4 33:tames"), it -> {
                it.clearWord();
                Make.file(it, "tames", 2, 1, 9, 4, 33);
                Make.word(it, word);
                return it;
            });
        }
    }

    /** "Commands are executed in order": each one sees what those before it did. */
    private static void commandsSeeEarlierOnes() {
        ButtonRegistry registry = new ButtonRegistry();
        Check.same("runScript", 5, Make.run(registry, "button;button;bond 0-1 5;cut 1-0;bond 1-0 6"));
        Check.same("tension", 6, registry.tension(0, 1));
        Check.same("runScript", 4, Make.run(registry, "rule 80:a;file 0>1 99 1 1:b;hear 0;close 0"));
        Check.same("precedents", 2, registry.precedentCount());
        Check.same("balance", 72, registry.balance(0));
        Check.same("day", 1, registry.day());
        Make.script(registry, "bond 0-2 5;button");
        Check.fails("the button is too late", FAILED, registry::runScript);
        Check.same("failed command", 0, registry.failedCommand());
        Check.same("no button", 2, registry.buttonCount());
    }

    /** "Either all of them take effect or none": whichever command fails, all is as it was. */
    private static void allOrNone() {
        String[] scripts = {"drop 3;wait 0", "hear 3;wait 0", "appeal 1;wait 0", "close 0;wait 0", "button;wait 0",
            "cut 0-1;wait 0", "bond 0-1 9;wait 0", "rule 5:a;wait 0", "give 0>1 9;wait 0", "file 0>1 1 1 1:a;wait 0",
            "drop 3;drop 3", "appeal 1;appeal 1", "close 1;hear 1", "wait 9;wait 0;wait 9", "wait 9;wait 0;drop 3"};
        for (String script : scripts) {
            Twins.same(script, ScriptEdgesTest::ready, it -> failing(it, script), it -> failing(it, "wait 1;wait 0"));
        }
    }

    /** Promise 58: "the index of the command, counted from 0", from the first one to the last one of 8. */
    private static void indexOfTheFailedCommand() {
        for (int at = 0; at < 8; at++) {
            StringBuilder script = new StringBuilder();
            for (int i = 0; i < 8; i++) {
                script.append(i > 0 ? ";" : "").append(i == at ? "wait 0" : "wait 1");
            }
            ButtonRegistry registry = ready();
            failing(registry, script.toString());
            Check.same("failed command", at, registry.failedCommand());
            Check.same("no day", 9, registry.day());
        }
    }

    private static Object failing(ButtonRegistry registry, String script) {
        Make.script(registry, script);
        Check.fails(script, FAILED, registry::runScript);
        return registry;
    }

    /** Promise 56: whatever exception the method throws, runScript throws IllegalStateException. */
    private static void everyExceptionFails() {
        ButtonRegistry registry = Make.withButtons(2);
        Make.file(registry, "a", 0, 1, 9, 1, 99);
        String[] scripts = {"bond 0-9 1", "wait 0", "give 0>1 1", "cut 0-1", "close 1", "hear 0"};
        for (String script : scripts) {
            failing(registry, script);
        }
        Make.precedent(registry, "a", 50);
        registry.hear(0);
        failing(registry, "appeal 0");
        Check.fails("the method throws another one", UnsupportedOperationException.class, () -> registry.appeal(0));
    }

    /** Promise 56: the form comes first, whatever commands would fail before the error. */
    private static void formComesFirst() {
        String[] scripts = {"wait 0;x", "drop 3;x", "hear 3;x", "hear 9;x", "wait 1;x"};
        for (String script : scripts) {
            Twins.same(script, ScriptEdgesTest::ready, it -> wrong(it, script), it -> wrong(it, "wait 2;?"));
        }
        ButtonRegistry registry = new ButtonRegistry();
        wrong(registry, "wait 0;");
        Check.fails("no command failed", NoSuchElementException.class, registry::failedCommand);
        Check.same("error position", 7, registry.errorPosition());
    }

    private static Object wrong(ButtonRegistry registry, String script) {
        Make.script(registry, script);
        Check.fails(script, FORM, registry::runScript);
        return registry;
    }

    /** Promise 56: "The buffer is empty afterwards, also if an exception is thrown." */
    private static void bufferIsEmptyAfterwards() {
        String[] scripts = {"wait 1", "wait 0", "wait"};
        for (String script : scripts) {
            ButtonRegistry registry = new ButtonRegistry();
            Make.script(registry, script);
            Twins.answer(registry::runScript);
            Check.same("the buffer is empty", 1, registry.type('w'));
            Make.script(registry, "ait 7");
            int day = registry.day();
            Check.same("another script", 1, registry.runScript());
            Check.same("it alone is run", day + 7, registry.day());
            Check.fails("an empty script", FORM, registry::runScript);
            Check.same("error position", 0, registry.errorPosition());
        }
        ButtonRegistry full = withFullBuffer();
        full.runScript();
        Check.same("room again", 1, full.type(' '));
    }

    /** Promises 57 and 58: of the latest such script; throws if there was none. */
    private static void latestErrorAndFailure() {
        ButtonRegistry registry = Make.withButtons(2);
        Make.run(registry, "wait 1");
        Twins.Maker none = () -> Make.withButtons(2);
        Twins.refuses("no error", none, NoSuchElementException.class, ButtonRegistry::errorPosition);
        Twins.refuses("no failure", none, NoSuchElementException.class, ButtonRegistry::failedCommand);
        failing(registry, "wait 1;wait 1;wait 0");
        Check.fails("still no error", NoSuchElementException.class, registry::errorPosition);
        wrong(registry, "button,");
        latest(registry, 6, 2);
        Make.run(registry, "wait 1");
        latest(registry, 6, 2);
        failing(registry, "wait 0");
        latest(registry, 6, 0);
        wrong(registry, "");
        latest(registry, 0, 0);
        wrong(registry, "wa");
        latest(registry, 2, 0);
        failing(registry, "wait 1;wait 0");
        latest(registry, 2, 1);
    }

    private static void latest(ButtonRegistry registry, int error, int failed) {
        Check.same("error position", error, registry.errorPosition());
        Check.same("failed command", failed, registry.failedCommand());
    }
}
