import java.util.NoSuchElementException;

/** "Terms" of the document up to the cases: a test for each sentence that names a boundary. */
public final class TermsEdgesTest {
    private TermsEdgesTest() {
    }

    public static void main(String[] args) {
        objectsAreApart();
        call512();
        eightButtons();
        balancesCanBeNegative();
        coinsAddUpToZero();
        oneBondForTwo();
        tensions();
        strainOfUnjoined();
        strainGoesRound();
        strainChangesWithBonds();
        emptyForest();
        greatestForest();
        forestWithCircles();
        groupsAtTheEnds();
        matterLengths();
        distanceOfOneStep();
        distanceTakesLettersOnce();
        distanceOfLongest();
        twentyPrecedents();
        nearestOfEqual();
        twelveCases();
        idsGoOn();
        ranksOfEqualCases();
        ranksOfEqualButtons();
        meanIsNotRounded();
        Check.finish();
    }

    /** Promise 1: a new object is empty, whatever other objects hold. */
    private static void objectsAreApart() {
        ButtonRegistry one = Make.withButtons(2);
        ButtonRegistry other = Make.withButtons(2);
        one.setBond(0, 1, 5);
        one.save();
        Make.word(one, "abc");
        Make.script(one, "wait 5");
        Check.same("the other word", 0, other.clearWord());
        Check.same("the other script", 1, other.type('b'));
        Check.same("the other groups", 2, other.groups());
        Check.fails("the other snapshot", IllegalStateException.class, other::restore);
    }

    /** "An object is used for at most 512 calls": the last one is as good as the first. */
    private static void call512() {
        ButtonRegistry registry = new ButtonRegistry();
        for (int call = 1; call <= 511; call++) {
            Check.same("passDays", 99 * call, registry.passDays(99));
        }
        Check.same("the last call", 7, registry.undo());
    }

    /** "There are at most 8 buttons, with the indices 0 to n - 1 in the order in which they were added." */
    private static void eightButtons() {
        ButtonRegistry registry = new ButtonRegistry();
        for (int i = 0; i < 8; i++) {
            int missing = i;
            Check.fails("not yet", IndexOutOfBoundsException.class, () -> registry.balance(missing));
            Check.same("addButton", i, registry.addButton());
            Check.same("initially 0 coins", 0, registry.balance(i));
        }
        Check.fails("the ninth", IllegalStateException.class, registry::addButton);
        Check.same("still 8", 8, registry.buttonCount());
        registry.undo();
        Check.same("room for one again", 7, registry.addButton());
    }

    /** "A button has a balance in coins, initially 0, which can be negative." */
    private static void balancesCanBeNegative() {
        ButtonRegistry registry = Make.withButtons(2);
        registry.hear(Make.file(registry, "a", 0, 1, 1, 1, 0));
        Check.same("below 0", -29, registry.balance(0));
        registry.hear(Make.file(registry, "a", 0, 1, 1, 5, 0));
        Check.same("further below 0", -29 - 45, registry.balance(0));
        Check.same("the other one", 0, registry.balance(1));
    }

    /** "The balances of all buttons and the coins in the chest always add up to 0." */
    private static void coinsAddUpToZero() {
        ButtonRegistry registry = Make.withButtons(3);
        Make.precedent(registry, "ab", 33);
        Make.precedent(registry, "b", 67);
        sameSum(registry);
        for (int i = 0; i < 3; i++) {
            registry.hear(Make.file(registry, "ba", i, (i + 1) % 3, 77 + i, 1 + i, 3));
            sameSum(registry);
        }
        registry.appeal(0);
        sameSum(registry);
        registry.close(0);
        sameSum(registry);
        registry.give(registry.buttonByBalance(0), registry.buttonByBalance(2), 1);
        sameSum(registry);
    }

    private static void sameSum(ButtonRegistry registry) {
        int sum = registry.chest();
        for (int i = 0; i < registry.buttonCount(); i++) {
            sum += registry.balance(i);
        }
        Check.same("the sum of all coins", 0, sum);
    }

    /** "At most one bond joins two different buttons." */
    private static void oneBondForTwo() {
        ButtonRegistry registry = Make.withButtons(2);
        registry.setBond(0, 1, 9);
        Check.same("the same bond", 9, registry.setBond(1, 0, 4));
        Check.same("one bond alone", "0(0)-1/4", render(registry, 0));
        Check.same("cut from the other side", 4, registry.cutBond(0, 1));
        Check.fails("none remains", NoSuchElementException.class, () -> registry.cutBond(1, 0));
    }

    private static String render(ButtonRegistry registry, int button) {
        registry.renderBonds(button);
        return Look.output(registry);
    }

    /** "It has a tension from 1 to 20." */
    private static void tensions() {
        ButtonRegistry registry = Make.withButtons(2);
        for (int tension = 1; tension <= 20; tension++) {
            registry.setBond(0, 1, tension);
            Check.same("tension", tension, registry.tension(1, 0));
            strain(registry, 0, 1, tension);
            forest(registry, tension);
        }
        Check.fails("0", IllegalArgumentException.class, () -> registry.setBond(0, 1, 0));
        Check.fails("21", IllegalArgumentException.class, () -> registry.setBond(0, 1, 21));
        strain(registry, 0, 1, 20);
    }

    /** "It is 25 if no sequence of bonds joins them." */
    private static void strainOfUnjoined() {
        ButtonRegistry registry = Make.withButtons(4);
        strain(registry, 0, 3, 25);
        registry.setBond(0, 1, 20);
        registry.setBond(2, 3, 1);
        strain(registry, 0, 1, 20);
        strain(registry, 2, 3, 1);
        strain(registry, 0, 2, 25);
        strain(registry, 1, 3, 25);
        strain(registry, 3, 0, 25);
        registry.setBond(1, 2, 20);
        strain(registry, 0, 3, 20);
    }

    private static void strain(ButtonRegistry registry, int first, int second, int due) {
        Check.same("strain", due, registry.strain(first, second));
        Check.same("strain from the other side", due, registry.strain(second, first));
        Check.same("strainByTable", due, registry.strainByTable(first, second));
        Check.same("strainByTable from the other side", due, registry.strainByTable(second, first));
    }

    /** "The smallest number such that they are joined by a sequence of bonds with at most this tension each." */
    private static void strainGoesRound() {
        ButtonRegistry registry = Make.withButtons(8);
        int[] way = {0, 4, 1, 7, 2, 6, 3, 5};
        for (int i = 1; i < way.length; i++) {
            registry.setBond(way[i - 1], way[i], 3);
        }
        registry.setBond(0, 5, 4);
        strain(registry, 0, 5, 3);
        registry.setBond(7, 2, 5);
        strain(registry, 0, 5, 4);
        strain(registry, 7, 2, 4);
        strain(registry, 0, 7, 3);
    }

    /** The strain is that of the bonds that are there now. */
    private static void strainChangesWithBonds() {
        ButtonRegistry registry = Make.withButtons(3);
        registry.setBond(0, 1, 2);
        registry.setBond(1, 2, 6);
        strain(registry, 0, 2, 6);
        registry.setBond(1, 2, 1);
        strain(registry, 0, 2, 2);
        registry.cutBond(0, 1);
        strain(registry, 0, 2, 25);
        registry.undo();
        strain(registry, 0, 2, 2);
    }

    private static void forest(ButtonRegistry registry, int due) {
        Check.same("forestTension", due, registry.forestTension());
        Check.same("forestTensionByGrowth", due, registry.forestTensionByGrowth());
    }

    /** Without bonds the forest is empty. */
    private static void emptyForest() {
        ButtonRegistry registry = new ButtonRegistry();
        forest(registry, 0);
        for (int i = 0; i < 8; i++) {
            registry.addButton();
            forest(registry, 0);
        }
        registry.setBond(3, 6, 11);
        forest(registry, 11);
        registry.cutBond(6, 3);
        forest(registry, 0);
    }

    /** 8 buttons are joined by 7 bonds, however many there are. */
    private static void greatestForest() {
        ButtonRegistry registry = Make.withButtons(8);
        for (int tension = 20; tension >= 1; tension -= 19) {
            for (int first = 0; first < 8; first++) {
                for (int second = first + 1; second < 8; second++) {
                    registry.setBond(first, second, tension);
                }
            }
            forest(registry, 7 * tension);
            Check.same("groups", 1, registry.groups());
        }
    }

    /** "A forest is a set of bonds without circles that joins all buttons which are joined by bonds." */
    private static void forestWithCircles() {
        ButtonRegistry registry = Make.withButtons(8);
        int[][] bonds = {{0, 1, 20}, {1, 2, 19}, {2, 0, 18}, {3, 4, 1}, {4, 5, 1}, {5, 3, 1}, {6, 7, 5}};
        for (int[] bond : bonds) {
            registry.setBond(bond[0], bond[1], bond[2]);
        }
        forest(registry, 37 + 2 + 5);
        Check.same("three trees", 3, registry.groups());
        registry.setBond(2, 3, 20);
        forest(registry, 37 + 2 + 5 + 20);
        registry.setBond(7, 0, 20);
        forest(registry, 37 + 2 + 5 + 40);
        Check.same("one tree", 1, registry.groups());
    }

    /** "A button without bonds is a group of its own." */
    private static void groupsAtTheEnds() {
        ButtonRegistry registry = new ButtonRegistry();
        Check.same("no buttons, no groups", 0, registry.groups());
        for (int i = 1; i <= 8; i++) {
            registry.addButton();
            Check.same("single buttons", i, registry.groups());
        }
        for (int i = 1; i < 8; i++) {
            registry.setBond(0, i, 20);
            Check.same("one group less", 8 - i, registry.groups());
        }
        registry.setBond(6, 7, 1);
        Check.same("a circle joins nothing more", 1, registry.groups());
    }

    /** "A matter is a word of 1 to 8 letters from a to z." */
    private static void matterLengths() {
        String[] words = {"a", "z", "az", "abcdefgh", "zzzzzzzz", "zyxwvuts"};
        for (String word : words) {
            ButtonRegistry registry = Make.withButtons(2);
            Make.precedent(registry, word, 7);
            int id = Make.file(registry, word, 0, 1, 1, 1, 1);
            Check.same("matterLength", word.length(), registry.matterLength(id));
            Check.same("matter", word, Look.matter(registry, id));
            Check.same("the precedent has it, too", 0, registry.distance(id, 0));
        }
    }

    private static void distance(String one, String other, int due) {
        String[][] pairs = {{one, other}, {other, one}};
        for (String[] pair : pairs) {
            ButtonRegistry registry = Make.withButtons(2);
            Make.precedent(registry, pair[0], 0);
            Make.file(registry, pair[1], 0, 1, 1, 1, 1);
            Check.same("distance of " + pair[0] + " and " + pair[1], due, registry.distance(0, 0));
            Check.same("distanceByEnds of " + pair[0] + " and " + pair[1], due, registry.distanceByEnds(0, 0));
        }
    }

    /** "A step inserts a letter, deletes a letter, replaces a letter, or exchanges two letters." */
    private static void distanceOfOneStep() {
        distance("a", "a", 0);
        distance("seam", "seam", 0);
        distance("a", "z", 1);
        distance("seam", "beam", 1);
        distance("seam", "sear", 1);
        distance("seam", "steam", 1);
        distance("seam", "seams", 1);
        distance("seam", "unseam", 2);
        distance("seam", "esam", 1);
        distance("seam", "saem", 1);
        distance("seam", "sema", 1);
        distance("seam", "esma", 2);
        distance("abcdefg", "abcdefgh", 1);
        distance("bcdefgh", "abcdefgh", 1);
        distance("abcdefgh", "abcdefhg", 1);
    }

    /** "Each letter takes part in at most one step", and exchanged letters are neighbours in both words. */
    private static void distanceTakesLettersOnce() {
        distance("ca", "abc", 3);
        distance("ac", "cba", 3);
        distance("ab", "bca", 3);
        distance("abc", "cab", 2);
        distance("abc", "cba", 2);
        distance("abcd", "dcba", 3);
        distance("abab", "baba", 2);
        distance("aabb", "bbaa", 3);
    }

    /** Words of 1 and of 8 letters. */
    private static void distanceOfLongest() {
        distance("a", "zzzzzzzz", 8);
        distance("z", "abcdefgz", 7);
        distance("abcdefgh", "ijklmnop", 8);
        distance("abcdefgh", "abcdefgh", 0);
        distance("abcdefgh", "badcfehg", 4);
        distance("abcdefgh", "bcdefgha", 2);
        distance("aaaaaaaa", "a", 7);
        distance("abababab", "babababa", 2);
    }

    /** "There are at most 20 precedents, with the indices 0 to n - 1 in the order in which they were added." */
    private static void twentyPrecedents() {
        ButtonRegistry registry = Make.withButtons(2);
        for (int i = 0; i < 20; i++) {
            int missing = i;
            Check.fails("not yet", IndexOutOfBoundsException.class, () -> registry.precedentPercentage(missing));
            Check.same("addPrecedent", i, Make.precedent(registry, i % 2 == 0 ? "a" : "b", 100 - 5 * i));
        }
        for (int i = 0; i < 20; i++) {
            Check.same("precedentPercentage", 100 - 5 * i, registry.precedentPercentage(i));
        }
        Make.word(registry, "a");
        Check.fails("the next one", IllegalStateException.class, () -> registry.addPrecedent(50));
        int id = registry.fileCase(0, 1, 1, 1, 1);
        for (int i = 0; i < 20; i++) {
            Check.same("the matter that was typed for it", i % 2, registry.distance(id, i));
        }
        Check.same("still 20", 20, registry.precedentCount());
    }

    /** "The one whose matter has the smallest distance; of several, the one with the greatest index." */
    private static void nearestOfEqual() {
        ButtonRegistry registry = Make.withButtons(2);
        int id = Make.file(registry, "mmm", 0, 1, 1, 1, 1);
        Check.same("the first one", 0, nearestAfter(registry, id, "zzzzzzzz"));
        Check.same("as far as the first one", 1, nearestAfter(registry, id, "yyyyyyyy"));
        Check.same("nearer", 2, nearestAfter(registry, id, "mm"));
        Check.same("farther", 2, nearestAfter(registry, id, "mzz"));
        Check.same("as near, by another step", 4, nearestAfter(registry, id, "mmmm"));
        Check.same("the same word", 5, nearestAfter(registry, id, "mmm"));
        Check.same("one step away", 5, nearestAfter(registry, id, "mmn"));
        for (int i = 7; i < 20; i++) {
            Check.same("the same word again", i, nearestAfter(registry, id, "mmm"));
        }
    }

    private static int nearestAfter(ButtonRegistry registry, int id, String matter) {
        Make.precedent(registry, matter, 50);
        return registry.nearestPrecedent(id);
    }

    /** "At most 12 cases exist at a time", so that a withdrawn or closed one makes room. */
    private static void twelveCases() {
        ButtonRegistry registry = Make.withButtons(2);
        for (int i = 0; i < 12; i++) {
            Make.file(registry, "a", 0, 1, 1, 1, 0);
        }
        Make.word(registry, "b");
        Check.fails("the thirteenth", IllegalStateException.class, () -> registry.fileCase(0, 1, 1, 1, 0));
        registry.hear(5);
        Check.fails("a decided case exists", IllegalStateException.class, () -> registry.fileCase(0, 1, 1, 1, 0));
        registry.close(5);
        Check.same("room by closing", 12, registry.fileCase(0, 1, 1, 1, 0));
        Make.word(registry, "b");
        Check.fails("full again", IllegalStateException.class, () -> registry.fileCase(0, 1, 1, 1, 0));
        registry.withdraw(12);
        Check.same("room by withdrawing", 13, registry.fileCase(0, 1, 1, 1, 0));
        Check.same("12 cases", 12, registry.caseCount());
        Check.same("the last one", 13, registry.caseAt(11));
    }

    /** "The first id is 0, and each other one is 1 more than the one before", whatever became of that one. */
    private static void idsGoOn() {
        ButtonRegistry registry = Make.withButtons(2);
        for (int i = 0; i < 30; i++) {
            Make.word(registry, "a");
            Check.fails("a refused filing", IllegalArgumentException.class, () -> registry.fileCase(0, 1, 0, 1, 1));
            Check.same("fileCase", i, registry.fileCase(0, 1, 1, 1, 1));
            registry.withdraw(i);
        }
        Check.same("none exists", 0, registry.caseCount());
    }

    /** "By claim in descending order, then by deadline in ascending order, then by id in ascending order." */
    private static void ranksOfEqualCases() {
        ButtonRegistry registry = Make.withButtons(2);
        int[][] cases = {{1, 0}, {1, 999}, {1, 0}, {99, 999}, {99, 0}, {99, 998}, {50, 5}, {99, 999}, {1, 999}, {50, 5},
            {50, 4}, {98, 0}};
        for (int[] one : cases) {
            Make.file(registry, "a", 0, 1, one[0], 1, one[1]);
        }
        int[] due = {4, 5, 3, 7, 11, 10, 6, 9, 0, 2, 1, 8};
        for (int rank = 0; rank < due.length; rank++) {
            Check.same("caseByClaim(" + rank + ")", due[rank], registry.caseByClaim(rank));
        }
    }

    /** "By balance in descending order, then by the number of their bonds, then by index in ascending order." */
    private static void ranksOfEqualButtons() {
        ButtonRegistry registry = Make.withButtons(8);
        buttons(registry, 0, 1, 2, 3, 4, 5, 6, 7);
        registry.setBond(7, 6, 1);
        buttons(registry, 6, 7, 0, 1, 2, 3, 4, 5);
        registry.setBond(0, 5, 20);
        buttons(registry, 0, 5, 6, 7, 1, 2, 3, 4);
        registry.setBond(7, 4, 1);
        buttons(registry, 7, 0, 4, 5, 6, 1, 2, 3);
        registry.cutBond(7, 4);
        registry.cutBond(0, 5);
        registry.setBond(7, 5, 20);
        buttons(registry, 7, 5, 6, 0, 1, 2, 3, 4);
        for (int other = 0; other < 7; other++) {
            registry.setBond(4, other == 4 ? 7 : other, 20);
        }
        buttons(registry, 4, 7, 5, 6, 0, 1, 2, 3);
        Make.precedent(registry, "a", 100);
        registry.hear(Make.file(registry, "a", 3, 4, 1, 1, 9));
        buttons(registry, 3, 7, 5, 6, 0, 1, 2, 4);
    }

    private static void buttons(ButtonRegistry registry, int... due) {
        for (int rank = 0; rank < due.length; rank++) {
            Check.same("buttonByBalance(" + rank + ")", due[rank], registry.buttonByBalance(rank));
        }
    }

    /** "The sum divided by the number of cases, both converted to double", and the share converted to float. */
    private static void meanIsNotRounded() {
        ButtonRegistry registry = Make.withButtons(2);
        Make.precedent(registry, "a", 50);
        int sum = 0;
        for (int i = 1; i <= 12; i++) {
            int claim = i == 12 ? 99 : i / 2 + 1;
            registry.hear(Make.file(registry, "a", 0, 1, claim, 1, i > 7 ? 0 : 999));
            sum += claim;
            Check.same("meanClaim", (double) sum / (double) i, registry.meanClaim());
            Check.same("ruledShare", (float) Math.min(7, i) / (float) i, registry.ruledShare());
        }
    }
}
