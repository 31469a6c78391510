/** Makes registries for tests in few words. */
final class Make {
    private Make() {
    }

    static ButtonRegistry withButtons(int buttons) {
        ButtonRegistry registry = new ButtonRegistry();
        for (int i = 0; i < buttons; i++) {
            registry.addButton();
        }
        return registry;
    }

    /**
     * With something of everything: a bond between 0 and 1 alone; case 0 is appealed, 1 ruled, 2 dismissed, 3 filed and
     * 4 withdrawn; the balances are 10, -8 and -81; 8 changes can be undone; the word is "xy", the script "wait 5".
     */
    static ButtonRegistry inUse() {
        ButtonRegistry registry = withButtons(3);
        registry.setBond(0, 1, 7);
        precedent(registry, "seam", 80);
        precedent(registry, "sew", 20);
        file(registry, "seat", 0, 1, 50, 1, 9);
        file(registry, "same", 1, 2, 40, 2, 9);
        file(registry, "team", 2, 0, 30, 1, 0);
        file(registry, "hem", 0, 2, 20, 1, 99);
        registry.withdraw(file(registry, "gone", 0, 2, 20, 1, 99));
        registry.save();
        registry.hear(0);
        registry.appeal(0);
        registry.hear(1);
        registry.hear(2);
        refusedRun(registry, "wait 9;wait 0");
        refusedRun(registry, "wait");
        registry.renderBonds(1);
        script(registry, "wait 5");
        word(registry, "xy");
        return registry;
    }

    /** inUse with another word. */
    static ButtonRegistry inUseWithWord(String word) {
        ButtonRegistry registry = inUse();
        registry.clearWord();
        word(registry, word);
        return registry;
    }

    /** 8 buttons, 20 precedents, 12 filed cases, and the word. */
    static ButtonRegistry full(String word) {
        ButtonRegistry registry = withButtons(8);
        for (int i = 0; i < 20; i++) {
            precedent(registry, "a", i);
        }
        for (int i = 0; i < 12; i++) {
            file(registry, "b", i % 8, 7 - i % 8, 99 - i, 1 + i % 5, 999 - i);
        }
        word(registry, word);
        return registry;
    }

    static void word(ButtonRegistry registry, String word) {
        for (int i = 0; i < word.length(); i++) {
            registry.typeLetter(word.charAt(i));
        }
    }

    static int precedent(ButtonRegistry registry, String matter, int percentage) {
        word(registry, matter);
        return registry.addPrecedent(percentage);
    }

    /** numbers: plaintiff, defendant, claim, duration, deadline. */
    static int file(ButtonRegistry registry, String matter, int... numbers) {
        word(registry, matter);
        return registry.fileCase(numbers[0], numbers[1], numbers[2], numbers[3], numbers[4]);
    }

    static void script(ButtonRegistry registry, String script) {
        for (int i = 0; i < script.length(); i++) {
            registry.type(script.charAt(i));
        }
    }

    static int run(ButtonRegistry registry, String script) {
        script(registry, script);
        return registry.runScript();
    }

    static void refusedRun(ButtonRegistry registry, String script) {
        script(registry, script);
        try {
            registry.runScript();
        } catch (IllegalArgumentException | IllegalStateException fault) {
            return;
        }
        throw new AssertionError("not refused: " + script);
    }
}
