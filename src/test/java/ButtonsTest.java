import java.util.NoSuchElementException;

/** Promises 1 to 4, 13 to 24 and 48: buttons, coins, days and bonds. */
public final class ButtonsTest {
    private ButtonsTest() {
    }

    public static void main(String[] args) {
        newObject();
        addButton();
        setBond();
        cutBond();
        give();
        passDaysAndDay();
        balanceAndChest();
        tension();
        strain();
        forest();
        groups();
        buttonByBalance();
        Check.finish();
    }

    /** Promise 1. */
    private static void newObject() {
        ButtonRegistry registry = new ButtonRegistry();
        Check.same("day of a new object", 0, registry.day());
        Check.same("buttons of a new object", 0, registry.buttonCount());
        Check.same("precedents of a new object", 0, registry.precedentCount());
        Check.same("cases of a new object", 0, registry.caseCount());
        Check.same("chest of a new object", 0, registry.chest());
        Check.same("groups of a new object", 0, registry.groups());
        Check.same("forest of a new object", 0, registry.forestTension());
        Check.same("grown forest of a new object", 0, registry.forestTensionByGrowth());
        Check.same("docket of a new object", 0, registry.bestDocket());
        Check.same("docket by sets of a new object", 0, registry.bestDocketBySets());
        Check.same("transfers of a new object", 0, registry.fewestTransfers());
        Check.same("transfers by trial of a new object", 0, registry.fewestTransfersByTrial());
        Check.same("a new object is consistent", true, registry.isConsistent());
        Check.same("word of a new object", 0, registry.clearWord());
        Check.fails("undo of a new object", IllegalStateException.class, registry::undo);
        Check.fails("restore of a new object", IllegalStateException.class, registry::restore);
        Check.fails("output of a new object", IndexOutOfBoundsException.class, () -> registry.outputAt(0));
        Check.fails("error of a new object", NoSuchElementException.class, registry::errorPosition);
        Check.fails("failure of a new object", NoSuchElementException.class, registry::failedCommand);
        Check.same("script of a new object", 1, registry.type('b'));
    }

    /** Promises 2 and 16. */
    private static void addButton() {
        ButtonRegistry registry = new ButtonRegistry();
        for (int i = 0; i < 8; i++) {
            Check.same("addButton", i, registry.addButton());
            Check.same("buttonCount", i + 1, registry.buttonCount());
            Check.same("balance of a new button", 0, registry.balance(i));
        }
        Check.same("new buttons have no bonds", 8, registry.groups());
        Check.refuses("a ninth button", registry, IllegalStateException.class, registry::addButton);
    }

    /** Promise 3. */
    private static void setBond() {
        ButtonRegistry registry = Make.withButtons(3);
        Check.same("new bond", 0, registry.setBond(0, 2, 1));
        Check.same("same bond the other way round", 1, registry.setBond(2, 0, 20));
        Check.same("same bond again", 20, registry.setBond(0, 2, 7));
        Check.same("another bond", 0, registry.setBond(1, 2, 5));
        Check.same("tension", 7, registry.tension(2, 0));
        int[][] noButtons = {{-1, 0}, {0, -1}, {3, 0}, {0, 3}, {8, 8}, {Integer.MIN_VALUE, 1}, {1, Integer.MAX_VALUE}};
        for (int[] pair : noButtons) {
            Check.refuses("setBond without a button", registry, IndexOutOfBoundsException.class,
                    () -> registry.setBond(pair[0], pair[1], 0));
        }
        int[][] wrong = {{1, 1, 5}, {0, 1, 0}, {0, 1, 21}, {0, 1, -4}, {0, 2, Integer.MAX_VALUE}};
        for (int[] call : wrong) {
            Check.refuses("setBond with a wrong argument", registry, IllegalArgumentException.class,
                    () -> registry.setBond(call[0], call[1], call[2]));
        }
    }

    /** Promise 4. */
    private static void cutBond() {
        ButtonRegistry registry = Make.withButtons(3);
        registry.setBond(0, 1, 9);
        registry.setBond(1, 2, 4);
        Check.same("cutBond", 9, registry.cutBond(1, 0));
        Check.fails("no tension any more", NoSuchElementException.class, () -> registry.tension(0, 1));
        Check.same("the other bond remains", 4, registry.tension(1, 2));
        Check.refuses("cut again", registry, NoSuchElementException.class, () -> registry.cutBond(0, 1));
        Check.refuses("cut with itself", registry, NoSuchElementException.class, () -> registry.cutBond(1, 1));
        int[][] noButtons = {{-1, 0}, {0, -1}, {3, 0}, {0, 3}, {3, 3}};
        for (int[] pair : noButtons) {
            Check.refuses("cut without a button", registry, IndexOutOfBoundsException.class,
                    () -> registry.cutBond(pair[0], pair[1]));
        }
        Check.same("a bond after the cut is new", 0, registry.setBond(0, 1, 3));
    }

    /** Promise 13. */
    private static void give() {
        ButtonRegistry registry = withCoins();
        int rich = registry.balance(0);
        int poor = registry.balance(1);
        Check.same("give one coin", rich - 1, registry.give(0, 1, 1));
        Check.same("give all", 0, registry.give(0, 1, rich - 1));
        Check.same("the other one has got it", poor + rich, registry.balance(1));
        Check.refuses("give more than there is", registry, IllegalStateException.class, () -> registry.give(0, 1, 1));
        Check.refuses("give from a debt", registry, IllegalStateException.class, () -> registry.give(1, 2, 1));
        Check.refuses("coins below 1", registry, IllegalArgumentException.class, () -> registry.give(0, 1, 0));
        Check.refuses("coins below 0", registry, IllegalArgumentException.class, () -> registry.give(0, 1, -5));
        Check.refuses("coins above 999", registry, IllegalArgumentException.class, () -> registry.give(0, 1, 1000));
        Check.refuses("999 coins are too many", registry, IllegalStateException.class, () -> registry.give(0, 1, 999));
        Check.refuses("give to oneself", registry, IllegalArgumentException.class, () -> registry.give(1, 1, 1));
        Check.refuses("no giver", registry, IndexOutOfBoundsException.class, () -> registry.give(3, 0, 0));
        Check.refuses("no giver below 0", registry, IndexOutOfBoundsException.class, () -> registry.give(-1, 0, 1));
        Check.refuses("no taker", registry, IndexOutOfBoundsException.class, () -> registry.give(0, 3, 1));
        Check.refuses("the same one missing", registry, IndexOutOfBoundsException.class, () -> registry.give(7, 7, 1));
    }

    private static ButtonRegistry withCoins() {
        ButtonRegistry registry = Make.withButtons(3);
        Make.precedent(registry, "a", 100);
        registry.hear(Make.file(registry, "a", 0, 1, 50, 1, 9));
        return registry;
    }

    /** Promises 14 and 15. */
    private static void passDaysAndDay() {
        ButtonRegistry registry = new ButtonRegistry();
        Check.same("one day", 1, registry.passDays(1));
        Check.same("99 days", 100, registry.passDays(99));
        Check.same("day", 100, registry.day());
        int[] wrong = {0, -1, 100, Integer.MIN_VALUE, Integer.MAX_VALUE};
        for (int days : wrong) {
            Check.refuses("passDays", registry, IllegalArgumentException.class, () -> registry.passDays(days));
        }
    }

    /** Promises 17 and 18. */
    private static void balanceAndChest() {
        ButtonRegistry registry = withCoins();
        Check.same("balance of the plaintiff", 50, registry.balance(0));
        Check.same("balance of the defendant", -79, registry.balance(1));
        Check.same("balance of another one", 0, registry.balance(2));
        Check.same("chest", 29, registry.chest());
        int[] wrong = {-1, 3, 8, Integer.MIN_VALUE, Integer.MAX_VALUE};
        for (int button : wrong) {
            Check.refuses("balance", registry, IndexOutOfBoundsException.class, () -> registry.balance(button));
        }
    }

    /** Promise 19. */
    private static void tension() {
        ButtonRegistry registry = Make.withButtons(3);
        registry.setBond(2, 1, 6);
        Check.same("tension", 6, registry.tension(1, 2));
        Check.same("tension the other way round", 6, registry.tension(2, 1));
        Check.fails("no bond", NoSuchElementException.class, () -> registry.tension(0, 1));
        Check.fails("the same button", NoSuchElementException.class, () -> registry.tension(1, 1));
        int[][] noButtons = {{-1, 0}, {0, -1}, {3, 0}, {0, 3}, {0, 10}};
        for (int[] pair : noButtons) {
            Check.fails("tension without a button", IndexOutOfBoundsException.class,
                    () -> registry.tension(pair[0], pair[1]));
        }
    }

    /** Promises 20 and 21. */
    private static void strain() {
        ButtonRegistry registry = Make.withButtons(8);
        sameStrain(registry, 0, 7, 25);
        registry.setBond(0, 7, 20);
        sameStrain(registry, 0, 7, 20);
        for (int i = 0; i < 7; i++) {
            registry.setBond(i, i + 1, 2 * i + 1);
        }
        sameStrain(registry, 0, 7, 13);
        sameStrain(registry, 7, 0, 13);
        sameStrain(registry, 0, 1, 1);
        sameStrain(registry, 2, 5, 9);
        registry.setBond(6, 0, 4);
        sameStrain(registry, 6, 5, 9);
        sameStrain(registry, 6, 2, 4);
        registry.cutBond(6, 7);
        sameStrain(registry, 3, 7, 20);
        registry.cutBond(0, 7);
        sameStrain(registry, 3, 7, 25);
        Check.fails("strain with itself", IllegalArgumentException.class, () -> registry.strain(4, 4));
        Check.fails("strain with itself", IllegalArgumentException.class, () -> registry.strainByTable(4, 4));
        int[][] noButtons = {{-1, 0}, {0, -1}, {8, 0}, {0, 8}, {8, 8}, {-1, -1}};
        for (int[] pair : noButtons) {
            Check.fails("strain without a button", IndexOutOfBoundsException.class,
                    () -> registry.strain(pair[0], pair[1]));
            Check.fails("strain without a button", IndexOutOfBoundsException.class,
                    () -> registry.strainByTable(pair[0], pair[1]));
        }
    }

    private static void sameStrain(ButtonRegistry registry, int first, int second, int due) {
        Check.same("strain", due, registry.strain(first, second));
        Check.same("strainByTable", due, registry.strainByTable(first, second));
    }

    /** Promises 22 and 23. */
    private static void forest() {
        ButtonRegistry registry = Make.withButtons(8);
        sameForest(registry, 0);
        registry.setBond(0, 1, 20);
        sameForest(registry, 20);
        registry.setBond(1, 2, 3);
        registry.setBond(2, 0, 5);
        sameForest(registry, 8);
        registry.setBond(6, 7, 1);
        sameForest(registry, 9);
        registry.setBond(5, 7, 1);
        registry.setBond(5, 6, 1);
        sameForest(registry, 10);
        registry.setBond(2, 5, 19);
        sameForest(registry, 29);
        registry.setBond(0, 7, 18);
        sameForest(registry, 28);
        registry.cutBond(1, 2);
        sameForest(registry, 45);
    }

    private static void sameForest(ButtonRegistry registry, int due) {
        Check.same("forestTension", due, registry.forestTension());
        Check.same("forestTensionByGrowth", due, registry.forestTensionByGrowth());
    }

    /** Promise 24. */
    private static void groups() {
        ButtonRegistry registry = Make.withButtons(5);
        Check.same("single buttons", 5, registry.groups());
        registry.setBond(0, 4, 20);
        Check.same("a pair", 4, registry.groups());
        registry.setBond(1, 2, 1);
        registry.setBond(2, 4, 7);
        Check.same("four of five", 2, registry.groups());
        registry.setBond(1, 0, 3);
        Check.same("a circle", 2, registry.groups());
        registry.setBond(3, 0, 3);
        Check.same("all", 1, registry.groups());
    }

    /** Promise 48. */
    private static void buttonByBalance() {
        ButtonRegistry registry = Make.withButtons(5);
        registry.setBond(3, 4, 20);
        registry.setBond(3, 2, 20);
        order(registry, 3, 2, 4, 0, 1);
        registry.setBond(1, 0, 1);
        registry.setBond(1, 2, 1);
        order(registry, 1, 2, 3, 0, 4);
        Make.precedent(registry, "a", 100);
        registry.hear(Make.file(registry, "a", 0, 1, 2, 1, 9));
        order(registry, 0, 2, 3, 4, 1);
        int[] wrong = {-1, 5, Integer.MIN_VALUE, Integer.MAX_VALUE};
        for (int rank : wrong) {
            Check.fails("no such rank", NoSuchElementException.class, () -> registry.buttonByBalance(rank));
        }
    }

    private static void order(ButtonRegistry registry, int... due) {
        for (int rank = 0; rank < due.length; rank++) {
            Check.same("buttonByBalance(" + rank + ")", due[rank], registry.buttonByBalance(rank));
        }
    }
}
