/** Makes registries for tests in few words. */
final class Make {
    private Make() {
    }

    static ButtonRegistry withButtons(int buttons) {
        ButtonRegistry registry = new ButtonRegistry();
        for (int i = 0; i < buttons; i++) {
            registry.addButton();
        }
        return registry;
    }

    static void word(ButtonRegistry registry, String word) {
        for (int i = 0; i < word.length(); i++) {
            registry.typeLetter(word.charAt(i));
        }
    }

    static int precedent(ButtonRegistry registry, String matter, int percentage) {
        word(registry, matter);
        return registry.addPrecedent(percentage);
    }

    /** numbers: plaintiff, defendant, claim, duration, deadline. */
    static int file(ButtonRegistry registry, String matter, int... numbers) {
        word(registry, matter);
        return registry.fileCase(numbers[0], numbers[1], numbers[2], numbers[3], numbers[4]);
    }

    static void script(ButtonRegistry registry, String script) {
        for (int i = 0; i < script.length(); i++) {
            registry.type(script.charAt(i));
        }
    }

    static int run(ButtonRegistry registry, String script) {
        script(registry, script);
        return registry.runScript();
    }
}
