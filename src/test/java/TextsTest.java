import java.util.NoSuchElementException;

/** Promises 52 to 58: the output text and scripts. */
public final class TextsTest {
    private TextsTest() {
    }

    public static void main(String[] args) {
        renderCase();
        renderBonds();
        outputAt();
        type();
        everyCommand();
        errorPositions();
        goodForms();
        failedCommands();
        scriptsLeaveTheWord();
        Check.finish();
    }

    /** Promise 52. */
    private static void renderCase() {
        ButtonRegistry registry = Make.withButtons(8);
        Make.precedent(registry, "seam", 50);
        for (int i = 0; i < 10; i++) {
            registry.withdraw(Make.file(registry, "q", 0, 1, 1, 1, 0));
        }
        Make.file(registry, "seam", 0, 7, 30, 2, 17);
        Make.file(registry, "abcdefgh", 7, 6, 99, 5, 999);
        Make.file(registry, "z", 3, 2, 1, 1, 0);
        output(registry, registry.renderCase(10), "#10f 0>7 30x2!17:seam");
        output(registry, registry.renderCase(11), "#11f 7>6 99x5!999:abcdefgh");
        registry.hear(10);
        output(registry, registry.renderCase(10), "#10r 0>7 30x2!17:seam=15");
        registry.hear(12);
        output(registry, registry.renderCase(12), "#12d 3>2 1x1!0:z=0");
        Check.refuses("render no case", registry, NoSuchElementException.class, () -> registry.renderCase(13));
        output(registry, 18, "#12d 3>2 1x1!0:z=0");
    }

    private static void output(ButtonRegistry registry, int length, String due) {
        Check.same("output text", due, Look.output(registry));
        Check.same("its length", due.length(), length);
    }

    /** Promise 53. */
    private static void renderBonds() {
        ButtonRegistry registry = Make.withButtons(4);
        output(registry, registry.renderBonds(3), "3(0)");
        registry.setBond(0, 3, 1);
        output(registry, registry.renderBonds(3), "3(0)-0/1");
        registry.cutBond(0, 3);
        registry.setBond(3, 1, 12);
        registry.setBond(1, 0, 4);
        output(registry, registry.renderBonds(1), "1(0)-0/4-3/12");
        output(registry, registry.renderBonds(3), "3(0)-1/12");
        Make.file(registry, "a", 1, 0, 1, 1, 0);
        registry.hear(0);
        output(registry, registry.renderBonds(1), "1(-8)-0/4-3/12");
        Make.precedent(registry, "a", 100);
        Make.file(registry, "a", 2, 1, 99, 1, 99);
        registry.hear(1);
        output(registry, registry.renderBonds(2), "2(99)");
        registry.cutBond(0, 1);
        output(registry, registry.renderBonds(1), "1(-136)-3/12");
        int[] missing = {-1, 4, 8, Integer.MIN_VALUE, Integer.MAX_VALUE};
        for (int button : missing) {
            Check.refuses("render no button", registry, IndexOutOfBoundsException.class,
                    () -> registry.renderBonds(button));
        }
    }

    /** Promise 54. */
    private static void outputAt() {
        ButtonRegistry registry = Make.withButtons(1);
        Check.fails("an empty text", IndexOutOfBoundsException.class, () -> registry.outputAt(0));
        registry.renderBonds(0);
        Check.same("outputAt", '0', registry.outputAt(0));
        Check.same("outputAt", ')', registry.outputAt(3));
        int[] missing = {-1, 4, Integer.MIN_VALUE, Integer.MAX_VALUE};
        for (int index : missing) {
            Check.fails("no such index", IndexOutOfBoundsException.class, () -> registry.outputAt(index));
        }
        registry.undo();
        output(registry, 4, "0(0)");
    }

    /** Promise 55. */
    private static void type() {
        ButtonRegistry registry = new ButtonRegistry();
        char[] wrong = {0, 9, 10, 31, 127, 128, 255, Character.MAX_VALUE};
        for (int i = 0; i < 60; i++) {
            Check.same("type", i + 1, registry.type(i % 2 == 0 ? ' ' : '~'));
        }
        Check.refuses("type in a full buffer", registry, IllegalStateException.class, () -> registry.type('a'));
        for (char sign : wrong) {
            Check.refuses("type", registry, IllegalArgumentException.class, () -> registry.type(sign));
        }
        Check.fails("that is no script", IllegalArgumentException.class, registry::runScript);
        Check.same("the buffer is empty then", 1, registry.type('b'));
        for (char sign : wrong) {
            Check.refuses("type", registry, IllegalArgumentException.class, () -> registry.type(sign));
        }
    }

    /** Promise 56: each command does what its method does. */
    private static void everyCommand() {
        ButtonRegistry registry = new ButtonRegistry();
        Check.same("buttons", 3, Make.run(registry, "button;button;button"));
        Check.same("bonds", 4, Make.run(registry, "bond 0-1 7;bond 2-1 020;bond 0-2 5;cut 0-1"));
        Check.fails("it is cut", NoSuchElementException.class, () -> registry.tension(0, 1));
        Check.same("tension", 20, registry.tension(1, 2));
        Check.same("precedents", 2, Make.run(registry, "rule 100:seam;rule 0:abcdefgh"));
        Check.same("precedentPercentage", 100, registry.precedentPercentage(0));
        Check.same("cases", 2, Make.run(registry, "file 2>0 99 5 999:seam;file 0>1 1 2 3:z"));
        registry.renderCase(0);
        Check.same("case", "#0f 2>0 99x5!999:seam", Look.output(registry));
        registry.renderCase(1);
        Check.same("case", "#1f 0>1 1x2!3:z", Look.output(registry));
        Check.same("hearing and appeal", 4, Make.run(registry, "hear 0;appeal 0;drop 1;wait 99"));
        Check.same("day", 104, registry.day());
        Check.same("the only case", 1, registry.caseCount());
        Check.same("appealed", 34, registry.award(0));
        Check.same("balance", 31, registry.balance(2));
        Check.same("close and give", 2, Make.run(registry, "close 000;give 2>1 31"));
        Check.same("no cases", 0, registry.caseCount());
        Check.same("given", 31, registry.balance(1));
        Check.same("given", 0, registry.balance(2));
        Check.same("the buffer is empty", 1, registry.type('a'));
    }

    /** Promises 56 and 57. */
    private static void errorPositions() {
        String[] scripts = {"", "b", "butt", "bond", "bond ", "bond 0", "bond 0-", "bond 0-1", "bond 0-1 ", "button;",
            "hear ", "file 0>1 2 3 4:", "rule 100:a;"};
        for (String script : scripts) {
            error(script, script.length());
        }
        error("x", 0);
        error(" button", 0);
        error("Button", 0);
        error("buttons", 6);
        error("button ;", 6);
        error("button;;", 7);
        error("button; button", 7);
        error("bx", 1);
        error("bound 0-1 2", 2);
        error("bond 01-2 3", 6);
        error("bond 0-12 3", 8);
        error("bond 0>1 2", 6);
        error("bond 0-1 2345", 12);
        error("bond 0-1 x", 9);
        error("bond 0-1  2", 9);
        error("bond 0-1 -2", 9);
        error("cx", 1);
        error("cup 0-1", 2);
        error("cut 0-1 5", 7);
        error("close1", 5);
        error("closed", 5);
        error("file 0-1", 6);
        error("file 0>1 99 12 9:a", 13);
        error("file 0>1 9999 1 9:a", 12);
        error("file 0>1 99 1 9999:a", 17);
        error("file 0>1 99 1 999 a", 17);
        error("file 0>1 99 1 999:A", 18);
        error("rule 5:abcdefghi", 15);
        error("rule 5:ab1", 9);
        error("rule 5 :ab", 6);
        error("hear a", 5);
        error("heard 1", 4);
        error("appeal 1 ", 8);
        error("drop 1234", 8);
        error("give 0>1", 8);
        error("give 0>1,", 8);
        error("wait 5,button", 6);
        error("wait -5", 5);
        error("button;hear 5;x", 14);
    }

    private static void error(String script, int due) {
        ButtonRegistry registry = Make.withButtons(2);
        Make.script(registry, script);
        Check.fails("script " + script, IllegalArgumentException.class, registry::runScript);
        Check.same("error position of " + script, due, registry.errorPosition());
        Check.fails("no command failed in " + script, NoSuchElementException.class, registry::failedCommand);
        Check.same("no command takes effect in " + script, 2, registry.buttonCount());
        Check.same("the buffer is empty after " + script, 1, registry.type('a'));
        Check.same("no change by " + script, 1, registry.undo());
    }

    /** Promises 56 to 58: scripts of the form leave the error position as it was. */
    private static void goodForms() {
        ButtonRegistry registry = new ButtonRegistry();
        Check.fails("no error yet", NoSuchElementException.class, registry::errorPosition);
        Make.script(registry, "butter");
        Check.refusesScript(registry, IllegalArgumentException.class);
        Check.same("error position", 4, registry.errorPosition());
        Check.same("good form", 1, Make.run(registry, "button"));
        Check.same("the error position remains", 4, registry.errorPosition());
        Make.script(registry, "button;button;hear 999");
        Check.refusesScript(registry, IllegalStateException.class);
        Check.same("the error position remains", 4, registry.errorPosition());
        Check.same("failed command", 2, registry.failedCommand());
        Make.script(registry, "but");
        Check.refusesScript(registry, IllegalArgumentException.class);
        Check.same("the new error position", 3, registry.errorPosition());
        Check.same("the failed command remains", 2, registry.failedCommand());
        Check.same("good form", 2, Make.run(registry, "button;button"));
        Check.same("the failed command remains", 2, registry.failedCommand());
        registry.undo();
        registry.undo();
        Check.same("undo leaves the error position", 3, registry.errorPosition());
        Check.same("undo leaves the failed command", 2, registry.failedCommand());
        Make.script(registry, "bond 8-9 1");
        Check.refusesScript(registry, IllegalStateException.class);
        Check.same("failed command", 0, registry.failedCommand());
    }

    /** Promises 56 and 58: each command can fail with each of its exceptions. */
    private static void failedCommands() {
        String[] failing = {"bond 0-2 1", "bond 2-0 1", "bond 1-1 1", "bond 0-1 0", "bond 0-1 21", "cut 0-9", "cut 0-1",
            "file 0>2 1 1 1:a", "file 0>0 1 1 1:a", "file 0>1 0 1 1:a", "file 0>1 1 6 1:a", "file 0>1 100 1 1:a",
            "rule 101:a", "hear 7", "hear 0", "appeal 7", "appeal 1", "drop 7", "drop 1", "close 7", "close 0",
            "give 0>9 1", "give 0>0 1", "give 0>1 0", "give 0>1 999", "wait 0", "wait 100", "button;button"};
        for (String command : failing) {
            ButtonRegistry registry = Make.withButtons(2);
            for (int i = 0; i < 5; i++) {
                registry.addButton();
                registry.undo();
            }
            Make.file(registry, "a", 0, 1, 9, 1, 9);
            Make.file(registry, "b", 0, 1, 9, 1, 0);
            registry.passDays(1);
            registry.hear(1);
            if (command.equals("button;button")) {
                Make.run(registry, "button;button;button;button;button");
            }
            Make.script(registry, "wait 1;" + command + ";wait 1");
            Check.refusesScript(registry, IllegalStateException.class);
            Check.same("failed command of " + command, command.equals("button;button") ? 2 : 1,
                    registry.failedCommand());
            Check.same("the buffer is empty after " + command, 1, registry.type('a'));
        }
    }

    /** Promise 56: the matter stands in place of the typed word, which remains. */
    private static void scriptsLeaveTheWord() {
        ButtonRegistry registry = Make.withButtons(2);
        Make.word(registry, "abc");
        Make.run(registry, "rule 5:xy;file 0>1 9 1 9:z");
        Check.same("the word remains", 3, registry.clearWord());
        Check.same("matter", "z", Look.matter(registry, 0));
    }
}
