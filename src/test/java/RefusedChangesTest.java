import java.util.NoSuchElementException;

/**
 * The "Throws" lines of promises 2 to 14: the last arguments that are allowed and the first that are not, which
 * exception is first where several apply, and that a refused call changes nothing.
 */
public final class RefusedChangesTest {
    private static final Class<IllegalArgumentException> ARGUMENT = IllegalArgumentException.class;
    private static final Class<IllegalStateException> STATE = IllegalStateException.class;
    private static final Class<IndexOutOfBoundsException> INDEX = IndexOutOfBoundsException.class;
    private static final Class<NoSuchElementException> ELEMENT = NoSuchElementException.class;
    private static final Class<UnsupportedOperationException> UNSUPPORTED = UnsupportedOperationException.class;

    /** Where there are 3 buttons. */
    private static final int[] NO_BUTTONS = {-1, 3, 8, Integer.MIN_VALUE, Integer.MAX_VALUE};
    /** In Make.inUse(). */
    private static final int[] NO_CASES = {-1, 4, 5, Integer.MIN_VALUE, Integer.MAX_VALUE};

    private RefusedChangesTest() {
    }

    public static void main(String[] args) {
        addButton();
        bondsOfMissingButtons();
        setBondArguments();
        cutBond();
        typeLetter();
        typeLetterFull();
        addPrecedentArguments();
        addPrecedentFull();
        addPrecedentOrder();
        fileCaseButtons();
        fileCaseArguments();
        fileCaseAllowed();
        fileCaseFull();
        fileCaseOrder();
        callsWithoutCase();
        hear();
        hearOrder();
        appeal();
        appealOrder();
        withdrawAndClose();
        giveButtons();
        giveArguments();
        giveBalance();
        giveMost();
        giveOrder();
        passDays();
        Check.finish();
    }

    /** Promise 2: throws if there are 8 buttons. */
    private static void addButton() {
        ButtonRegistry registry = Make.withButtons(7);
        Check.same("the eighth button", 7, registry.addButton());
        Twins.refuses("the ninth button", () -> Make.full("xy"), STATE, ButtonRegistry::addButton);
        Twins.refuses("the ninth button", () -> Make.withButtons(8), STATE, ButtonRegistry::addButton);
    }

    /** Promises 3 and 4: no such button for either argument is first, whatever else is wrong. */
    private static void bondsOfMissingButtons() {
        for (int missing : NO_BUTTONS) {
            int[][] pairs = {{missing, 0}, {0, missing}, {missing, 2}, {2, missing}, {missing, missing}};
            for (int[] pair : pairs) {
                Twins.refuses("setBond", Make::inUse, INDEX, it -> it.setBond(pair[0], pair[1], 5));
                Twins.refuses("setBond with a wrong tension", Make::inUse, INDEX,
                        it -> it.setBond(pair[0], pair[1], 0));
                Twins.refuses("cutBond", Make::inUse, INDEX, it -> it.cutBond(pair[0], pair[1]));
            }
        }
        Twins.refuses("setBond without buttons", ButtonRegistry::new, INDEX, it -> it.setBond(0, 0, 0));
        Twins.refuses("cutBond without buttons", ButtonRegistry::new, INDEX, it -> it.cutBond(0, 0));
    }

    /** Promise 3: throws if both are the same, or the tension is not between 1 and 20. */
    private static void setBondArguments() {
        int[] wrong = {0, 21, -1, -20, Integer.MIN_VALUE, Integer.MAX_VALUE};
        for (int tension : wrong) {
            Twins.refuses("a new bond", Make::inUse, ARGUMENT, it -> it.setBond(1, 2, tension));
            Twins.refuses("a bond that is there", Make::inUse, ARGUMENT, it -> it.setBond(1, 0, tension));
        }
        for (int button = 0; button < 3; button++) {
            int same = button;
            Twins.refuses("a bond to itself", Make::inUse, ARGUMENT, it -> it.setBond(same, same, 5));
        }
        ButtonRegistry registry = Make.inUse();
        Check.same("the smallest tension", 0, registry.setBond(2, 0, 1));
        Check.same("the greatest tension", 1, registry.setBond(0, 2, 20));
        Check.same("it is kept", 20, registry.tension(2, 0));
    }

    /** Promise 4: throws if there is no bond between them. */
    private static void cutBond() {
        int[][] pairs = {{0, 2}, {2, 0}, {1, 2}, {2, 1}, {0, 0}, {1, 1}, {2, 2}};
        for (int[] pair : pairs) {
            Twins.refuses("cutBond without a bond", Make::inUse, ELEMENT, it -> it.cutBond(pair[0], pair[1]));
        }
        ButtonRegistry registry = Make.inUse();
        Check.same("cutBond", 7, registry.cutBond(1, 0));
        Check.fails("it is cut", ELEMENT, () -> registry.cutBond(1, 0));
        Check.fails("from the other side, too", ELEMENT, () -> registry.cutBond(0, 1));
    }

    /** Promise 5: throws if the character is not a letter from a to z. */
    private static void typeLetter() {
        char[] wrong = {'a' - 1, 'z' + 1, 'A', 'Z', '0', ' ', 0, 127, 223, 255, 'a' + 256, Character.MAX_VALUE};
        for (char sign : wrong) {
            Twins.refuses("typeLetter " + (int) sign, Make::inUse, ARGUMENT, it -> it.typeLetter(sign));
            Twins.refuses("typeLetter first", () -> Make.inUseWithWord(""), ARGUMENT, it -> it.typeLetter(sign));
        }
        ButtonRegistry registry = Make.inUse();
        Check.same("the first letter", 3, registry.typeLetter('a'));
        Check.same("the last letter", 4, registry.typeLetter('z'));
        Check.same("they are typed", "xyaz", Look.matter(registry, registry.fileCase(0, 1, 1, 1, 1)));
    }

    /** Promise 5: throws if the word has 8 letters; a wrong character is told first. */
    private static void typeLetterFull() {
        ButtonRegistry registry = Make.inUseWithWord("abcdefg");
        Check.same("the eighth letter", 8, registry.typeLetter('h'));
        Twins.refuses("the ninth letter", () -> Make.inUseWithWord("abcdefgh"), STATE, it -> it.typeLetter('i'));
        Twins.refuses("a wrong ninth sign", () -> Make.inUseWithWord("abcdefgh"), ARGUMENT, it -> it.typeLetter('{'));
    }

    /** Promise 7: throws if the percentage is not between 0 and 100. */
    private static void addPrecedentArguments() {
        int[] wrong = {-1, 101, Integer.MIN_VALUE, Integer.MAX_VALUE};
        for (int percentage : wrong) {
            Twins.refuses("addPrecedent", Make::inUse, ARGUMENT, it -> it.addPrecedent(percentage));
        }
        ButtonRegistry registry = Make.inUse();
        int index = registry.addPrecedent(0);
        Check.same("the smallest percentage", 0, registry.precedentPercentage(index));
        index = Make.precedent(registry, "z", 100);
        Check.same("the greatest percentage", 100, registry.precedentPercentage(index));
    }

    /** Promise 7: throws if there are 20 precedents. */
    private static void addPrecedentFull() {
        ButtonRegistry registry = Make.inUse();
        registry.clearWord();
        for (int i = registry.precedentCount(); i < 20; i++) {
            Check.same("addPrecedent", i, Make.precedent(registry, "a", i));
        }
        Twins.refuses("the next one", () -> Make.full("xy"), STATE, it -> it.addPrecedent(50));
    }

    /** Promise 7: throws if the word is empty; a wrong percentage is first, then 20 precedents. */
    private static void addPrecedentOrder() {
        Twins.refuses("no word", () -> Make.inUseWithWord(""), UNSUPPORTED, it -> it.addPrecedent(50));
        Twins.refuses("no word, too much", () -> Make.inUseWithWord(""), ARGUMENT, it -> it.addPrecedent(101));
        Twins.refuses("no word, full", () -> Make.full(""), STATE, it -> it.addPrecedent(50));
        Twins.refuses("full, too little", () -> Make.full("xy"), ARGUMENT, it -> it.addPrecedent(-1));
        Twins.refuses("all three", () -> Make.full(""), ARGUMENT, it -> it.addPrecedent(101));
        Check.same("a word of one letter", 4, Make.inUseWithWord("x").addPrecedent(50));
    }

    /** Promise 8: throws if there is no such button, for either argument. */
    private static void fileCaseButtons() {
        for (int missing : NO_BUTTONS) {
            Twins.refuses("no plaintiff", Make::inUse, INDEX, it -> it.fileCase(missing, 0, 1, 1, 1));
            Twins.refuses("no defendant", Make::inUse, INDEX, it -> it.fileCase(0, missing, 1, 1, 1));
            Twins.refuses("neither", Make::inUse, INDEX, it -> it.fileCase(missing, missing, 1, 1, 1));
        }
        ButtonRegistry registry = Make.inUse();
        int id = registry.fileCase(2, 0, 1, 1, 1);
        Check.same("the last button as plaintiff", 2, registry.plaintiff(id));
        id = Make.file(registry, "a", 0, 2, 1, 1, 1);
        Check.same("the last button as defendant", 2, registry.defendant(id));
    }

    /** Promise 8: throws if both are the same, or claim, duration or deadline is out of its range. */
    private static void fileCaseArguments() {
        int[][] wrong = {{0, 0, 1, 1, 1}, {2, 2, 1, 1, 1},
            {0, 1, 0, 1, 1}, {0, 1, 100, 1, 1}, {0, 1, Integer.MIN_VALUE, 1, 1}, {0, 1, Integer.MAX_VALUE, 1, 1},
            {0, 1, 1, 0, 1}, {0, 1, 1, 6, 1}, {0, 1, 1, Integer.MIN_VALUE, 1}, {0, 1, 1, Integer.MAX_VALUE, 1},
            {0, 1, 1, 1, -1}, {0, 1, 1, 1, 1000}, {0, 1, 1, 1, Integer.MIN_VALUE}, {0, 1, 1, 1, Integer.MAX_VALUE}};
        for (int[] call : wrong) {
            Twins.refuses("fileCase", Make::inUse, ARGUMENT,
                    it -> it.fileCase(call[0], call[1], call[2], call[3], call[4]));
        }
    }

    /** Promise 8: the ends of the ranges are allowed, and a deadline that is past. */
    private static void fileCaseAllowed() {
        int[][] allowed = {{0, 1, 1, 1, 1}, {0, 1, 99, 1, 1}, {0, 1, 1, 5, 1}, {0, 1, 1, 1, 0}, {0, 1, 1, 1, 999}};
        for (int[] call : allowed) {
            ButtonRegistry registry = Make.inUse();
            Check.same("day", 4, registry.day());
            int id = registry.fileCase(call[0], call[1], call[2], call[3], call[4]);
            Check.same("claim", call[2], registry.claim(id));
            Check.same("duration", call[3], registry.duration(id));
            Check.same("deadline", call[4], registry.deadline(id));
        }
    }

    /** Promise 8: throws if there are 12 cases. */
    private static void fileCaseFull() {
        ButtonRegistry registry = Make.withButtons(2);
        for (int i = 0; i < 12; i++) {
            Check.same("fileCase", i, Make.file(registry, "a", 0, 1, 1, 1, 1));
        }
        Twins.refuses("the thirteenth case", () -> Make.full("xy"), STATE, it -> it.fileCase(0, 1, 1, 1, 1));
    }

    /** Promise 8: throws if the word is empty; the order is button, argument, 12 cases, word. */
    private static void fileCaseOrder() {
        Twins.Maker noWord = () -> Make.inUseWithWord("");
        Twins.refuses("no word", noWord, UNSUPPORTED, it -> it.fileCase(0, 1, 1, 1, 1));
        Twins.refuses("no word, 12 cases", () -> Make.full(""), STATE, it -> it.fileCase(0, 1, 1, 1, 1));
        int[][] wrong = {{1, 1, 1, 1, 1}, {0, 1, 100, 1, 1}, {0, 1, 1, 0, 1}, {0, 1, 1, 1, 1000}};
        for (int[] call : wrong) {
            Twins.Step step = it -> it.fileCase(call[0], call[1], call[2], call[3], call[4]);
            Twins.refuses("no word, an argument", noWord, ARGUMENT, step);
            Twins.refuses("12 cases, an argument", () -> Make.full("xy"), ARGUMENT, step);
            Twins.refuses("all three", () -> Make.full(""), ARGUMENT, step);
        }
        int[][] missing = {{8, 0, 1, 1, 1}, {0, -1, 1, 1, 1}, {8, 8, 0, 1, 1}, {0, 8, 1, 6, 1}, {-1, 0, 1, 1, -1}};
        for (int[] call : missing) {
            Twins.Step step = it -> it.fileCase(call[0], call[1], call[2], call[3], call[4]);
            Twins.refuses("no word, no button", noWord, INDEX, step);
            Twins.refuses("12 cases, no button", () -> Make.full("xy"), INDEX, step);
            Twins.refuses("all four", () -> Make.full(""), INDEX, step);
        }
        Check.same("a word of one letter", 5, Make.inUseWithWord("x").fileCase(0, 1, 1, 1, 1));
    }

    /** Promises 9 to 12: throws if there is no such case: withdrawn, not yet filed, closed. */
    private static void callsWithoutCase() {
        for (int id : NO_CASES) {
            Twins.refuses("hear", Make::inUse, ELEMENT, it -> it.hear(id));
            Twins.refuses("appeal", Make::inUse, ELEMENT, it -> it.appeal(id));
            Twins.refuses("withdraw", Make::inUse, ELEMENT, it -> it.withdraw(id));
            Twins.refuses("close", Make::inUse, ELEMENT, it -> it.close(id));
        }
        Twins.Maker closed = () -> {
            ButtonRegistry registry = Make.inUse();
            registry.close(1);
            return registry;
        };
        Twins.refuses("hear a closed case", closed, ELEMENT, it -> it.hear(1));
        Twins.refuses("appeal a closed case", closed, ELEMENT, it -> it.appeal(1));
        Twins.refuses("withdraw a closed case", closed, ELEMENT, it -> it.withdraw(1));
        Twins.refuses("close a closed case", closed, ELEMENT, it -> it.close(1));
    }

    /** Promise 9: throws if the case is not filed; or would be ruled without precedents. */
    private static void hear() {
        for (int id = 0; id < 3; id++) {
            int decided = id;
            Twins.refuses("hear case " + id, Make::inUse, STATE, it -> it.hear(decided));
        }
        Twins.refuses("no precedents", RefusedChangesTest::withoutPrecedents, UNSUPPORTED, it -> it.hear(0));
        ButtonRegistry registry = withoutPrecedents();
        Check.same("it would be dismissed", 0, registry.hear(1));
        Check.same("dismissed", 'd', registry.state(1));
        ButtonRegistry one = withoutPrecedents();
        Make.precedent(one, "a", 50);
        Check.same("one precedent is enough", 5, one.hear(0));
    }

    /** Case 0 would be ruled, on the last day; case 1 would be dismissed, by one day; case 2 is dismissed. */
    private static ButtonRegistry withoutPrecedents() {
        ButtonRegistry registry = Make.withButtons(2);
        Make.file(registry, "a", 0, 1, 10, 2, 3);
        Make.file(registry, "b", 0, 1, 10, 3, 3);
        Make.file(registry, "c", 0, 1, 10, 1, 0);
        registry.hear(2);
        return registry;
    }

    /** Promise 9: no such case is first, then not filed, then no precedents. */
    private static void hearOrder() {
        Twins.refuses("no case, no precedents", RefusedChangesTest::withoutPrecedents, ELEMENT, it -> it.hear(3));
        Twins.refuses("dismissed, no precedents", RefusedChangesTest::withoutPrecedents, STATE, it -> it.hear(2));
    }

    /** Promise 10: throws if not ruled, or appealed; or without a precedent that can be looked at. */
    private static void appeal() {
        Twins.refuses("appeal a filed case", Make::inUse, STATE, it -> it.appeal(3));
        Twins.refuses("appeal a dismissed case", Make::inUse, STATE, it -> it.appeal(2));
        Twins.refuses("appeal an appealed case", Make::inUse, STATE, it -> it.appeal(0));
        Check.same("appeal a ruled case", 'r', Make.inUse().state(1));
        Twins.refuses("only the two", RefusedChangesTest::withTwoPrecedents, UNSUPPORTED, it -> it.appeal(0));
        ButtonRegistry registry = withTwoPrecedents();
        Make.precedent(registry, "zzzzzzzz", 10);
        Check.same("one more is enough", 5, registry.appeal(0));
    }

    /** One that decided, and the ruling. */
    private static ButtonRegistry withTwoPrecedents() {
        ButtonRegistry registry = Make.withButtons(2);
        Make.precedent(registry, "a", 50);
        registry.hear(Make.file(registry, "b", 0, 1, 10, 1, 9));
        Make.file(registry, "c", 0, 1, 10, 1, 0);
        return registry;
    }

    /** Promise 10: no such case is first, then the state, then the precedents. */
    private static void appealOrder() {
        Twins.refuses("no case", RefusedChangesTest::withoutPrecedents, ELEMENT, it -> it.appeal(3));
        Twins.refuses("filed", RefusedChangesTest::withoutPrecedents, STATE, it -> it.appeal(0));
        Twins.refuses("dismissed", RefusedChangesTest::withoutPrecedents, STATE, it -> it.appeal(2));
    }

    /** Promises 11 and 12: only a filed case can be withdrawn, and only another one closed. */
    private static void withdrawAndClose() {
        for (int id = 0; id < 3; id++) {
            int decided = id;
            Twins.refuses("withdraw case " + id, Make::inUse, STATE, it -> it.withdraw(decided));
        }
        Twins.refuses("close a filed case", Make::inUse, STATE, it -> it.close(3));
        Check.same("withdraw a filed case", 20, Make.inUse().withdraw(3));
        Check.same("close an appealed case", 15, Make.inUse().close(0));
        Check.same("close a ruled case", 28, Make.inUse().close(1));
        Check.same("close a dismissed case", 0, Make.inUse().close(2));
    }

    /** Promise 13: throws if there is no such button, for either argument. */
    private static void giveButtons() {
        for (int missing : NO_BUTTONS) {
            Twins.refuses("no giver", Make::inUse, INDEX, it -> it.give(missing, 1, 1));
            Twins.refuses("no taker", Make::inUse, INDEX, it -> it.give(0, missing, 1));
            Twins.refuses("neither", Make::inUse, INDEX, it -> it.give(missing, missing, 1));
        }
        Check.same("the last button takes", 9, Make.inUse().give(0, 2, 1));
    }

    /** Promise 13: throws if both are the same, or the coins are not between 1 and 999. */
    private static void giveArguments() {
        int[] wrong = {0, -1, -10, 1000, Integer.MIN_VALUE, Integer.MAX_VALUE};
        for (int coins : wrong) {
            Twins.refuses("give " + coins, Make::inUse, ARGUMENT, it -> it.give(0, 1, coins));
            Twins.refuses("give " + coins + " from a debt", Make::inUse, ARGUMENT, it -> it.give(1, 0, coins));
        }
        Twins.refuses("give to itself", Make::inUse, ARGUMENT, it -> it.give(0, 0, 1));
    }

    /** Promise 13: throws if the balance of the button that gives is less than the coins. */
    private static void giveBalance() {
        Twins.refuses("one coin too many", Make::inUse, STATE, it -> it.give(0, 1, 11));
        Twins.refuses("999 coins", Make::inUse, STATE, it -> it.give(0, 1, 999));
        Twins.refuses("from a debt", Make::inUse, STATE, it -> it.give(1, 0, 1));
        Twins.refuses("from a greater debt", Make::inUse, STATE, it -> it.give(2, 0, 81));
        Twins.refuses("from nothing", () -> Make.withButtons(2), STATE, it -> it.give(0, 1, 1));
        ButtonRegistry registry = Make.inUse();
        Check.same("all but one", 1, registry.give(0, 1, 9));
        Check.same("the last one", 0, registry.give(0, 1, 1));
        Check.same("it has arrived", 2, registry.balance(1));
    }

    /** Promise 13: 999 coins at once can be given, 1000 not, although the balance is great enough. */
    private static void giveMost() {
        Twins.refuses("1000 coins", RefusedChangesTest::rich, ARGUMENT, it -> it.give(0, 1, 1000));
        ButtonRegistry registry = rich();
        Check.same("a great balance", 11 * 99, registry.balance(0));
        Check.same("999 coins", 90, registry.give(0, 1, 999));
        Check.same("they have arrived", 999 - 11 * (99 + 29), registry.balance(1));
    }

    private static ButtonRegistry rich() {
        ButtonRegistry registry = Make.withButtons(2);
        Make.precedent(registry, "a", 100);
        for (int i = 0; i < 11; i++) {
            registry.hear(Make.file(registry, "a", 0, 1, 99, 1, 99));
        }
        return registry;
    }

    /** Promise 13: no such button is first, then the arguments, then the balance. */
    private static void giveOrder() {
        Twins.refuses("no button, no coins", Make::inUse, INDEX, it -> it.give(3, 0, 0));
        Twins.refuses("no button, 1000 coins", Make::inUse, INDEX, it -> it.give(1, 3, 1000));
        Twins.refuses("no button, a debt", Make::inUse, INDEX, it -> it.give(1, -1, 1));
        Twins.refuses("the same missing one", Make::inUse, INDEX, it -> it.give(3, 3, 1));
        Twins.refuses("to itself from a debt", Make::inUse, ARGUMENT, it -> it.give(1, 1, 1));
        Twins.refuses("1000 coins from a debt", Make::inUse, ARGUMENT, it -> it.give(1, 2, 1000));
    }

    /** Promise 14: throws if the days are not between 1 and 99. */
    private static void passDays() {
        int[] wrong = {0, 100, -1, -99, Integer.MIN_VALUE, Integer.MAX_VALUE};
        for (int days : wrong) {
            Twins.refuses("passDays " + days, Make::inUse, ARGUMENT, it -> it.passDays(days));
        }
        Check.same("the fewest days", 5, Make.inUse().passDays(1));
        Check.same("the most days", 103, Make.inUse().passDays(99));
    }
}
