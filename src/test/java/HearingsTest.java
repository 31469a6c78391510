import java.util.NoSuchElementException;

/** Promises 9, 10, 35 to 38, 41 and 42: hearings, appeals, distances and the nearest precedent. */
public final class HearingsTest {
    private HearingsTest() {
    }

    public static void main(String[] args) {
        distances();
        distancesOneAfterTheOther();
        nearestPrecedent();
        hear();
        hearPercentages();
        hearInTime();
        hearFaults();
        hearWithAllPrecedents();
        appeal();
        appealSkipsTwo();
        appealOfFullPrecedents();
        appealFaults();
        appealFeesWithoutChange();
        decidedOnly();
        Check.finish();
    }

    /** Promises 41 and 42. */
    private static void distances() {
        sameDistance("a", "a", 0);
        sameDistance("a", "b", 1);
        sameDistance("a", "ab", 1);
        sameDistance("ab", "ba", 1);
        sameDistance("seam", "mase", 4);
        sameDistance("seam", "same", 2);
        sameDistance("abcdefgh", "badcfehg", 4);
        sameDistance("abcdefgh", "ijklmnop", 8);
        sameDistance("abcdefgh", "a", 7);
        sameDistance("h", "abcdefgh", 7);
        sameDistance("ca", "abc", 3);
        sameDistance("kitten", "sitting", 3);
        sameDistance("aab", "aba", 1);
        sameDistance("abcabc", "bcabca", 2);
        sameDistance("acb", "bac", 2);
        ButtonRegistry registry = Make.withButtons(2);
        Make.precedent(registry, "a", 1);
        Make.file(registry, "a", 0, 1, 1, 1, 1);
        int[] missing = {-1, 1, 20, Integer.MIN_VALUE, Integer.MAX_VALUE};
        for (int precedent : missing) {
            Check.fails("distance", IndexOutOfBoundsException.class, () -> registry.distance(0, precedent));
            Check.fails("distanceByEnds", IndexOutOfBoundsException.class,
                    () -> registry.distanceByEnds(0, precedent));
        }
        Check.fails("distance", NoSuchElementException.class, () -> registry.distance(1, 1));
        Check.fails("distanceByEnds", NoSuchElementException.class, () -> registry.distanceByEnds(1, 1));
    }

    private static void sameDistance(String one, String other, int due) {
        String[] words = {one, other, one};
        for (int i = 0; i < 2; i++) {
            ButtonRegistry registry = Make.withButtons(2);
            Make.precedent(registry, "zz", 0);
            Make.precedent(registry, words[i], 0);
            Make.file(registry, words[i + 1], 0, 1, 1, 1, 1);
            Check.same("distance of " + one + " and " + other, due, registry.distance(0, 1));
            Check.same("distanceByEnds of " + one + " and " + other, due, registry.distanceByEnds(0, 1));
        }
    }

    /** Promises 41 and 42: no answer depends on the one before. */
    private static void distancesOneAfterTheOther() {
        String[] words = {"abcdefgh", "a", "badcfehg", "ab", "hgfedcba", "zzzz", "abcdefgh", "bac"};
        int[] due = {0, 7, 4, 6, 7, 8, 0, 6};
        ButtonRegistry registry = Make.withButtons(2);
        Make.file(registry, "abcdefgh", 0, 1, 1, 1, 1);
        for (String word : words) {
            Make.precedent(registry, word, 0);
        }
        for (int i = 0; i < words.length; i++) {
            Check.same("distanceByEnds to " + words[i], due[i], registry.distanceByEnds(0, i));
        }
        for (int i = 0; i < words.length; i++) {
            Check.same("distance to " + words[i], due[i], registry.distance(0, i));
        }
    }

    /** Promise 38. */
    private static void nearestPrecedent() {
        ButtonRegistry registry = Make.withButtons(2);
        Make.file(registry, "seam", 0, 1, 1, 1, 9);
        Check.fails("no precedents", UnsupportedOperationException.class, () -> registry.nearestPrecedent(0));
        Make.precedent(registry, "abcdefgh", 0);
        Check.same("the only one", 0, registry.nearestPrecedent(0));
        Make.precedent(registry, "team", 0);
        Make.precedent(registry, "sea", 0);
        Make.precedent(registry, "sae", 0);
        Check.same("the last one of the nearest", 2, registry.nearestPrecedent(0));
        Make.precedent(registry, "seam", 0);
        Make.precedent(registry, "seat", 0);
        Check.same("the same word", 4, registry.nearestPrecedent(0));
        registry.hear(0);
        Check.same("its own ruling", 6, registry.nearestPrecedent(0));
    }

    /** Promise 9, and 35 to 37. */
    private static void hear() {
        ButtonRegistry registry = Make.withButtons(3);
        registry.setBond(0, 1, 7);
        registry.setBond(1, 2, 3);
        Make.precedent(registry, "seam", 81);
        Make.file(registry, "seat", 0, 2, 33, 2, 10);
        Check.same("award", 25, registry.hear(0));
        Check.same("award", 25, registry.award(0));
        Check.same("percentage", 76, registry.percentage(0));
        Check.same("cost", 15, registry.cost(0));
        Check.same("day", 2, registry.day());
        Check.same("state", 'r', registry.state(0));
        Check.same("balance of the plaintiff", 25 - 3, registry.balance(0));
        Check.same("balance of the defendant", -25 - 12, registry.balance(2));
        Check.same("chest", 15, registry.chest());
        Check.same("the ruling is a precedent", 2, registry.precedentCount());
        Check.same("its percentage", 76, registry.precedentPercentage(1));
        Check.same("its matter", 0, registry.distance(0, 1));
    }

    /** Promise 9: the percentage goes towards 50 and not beyond it. */
    private static void hearPercentages() {
        int[][] dues = {{100, 0, 100}, {100, 8, 60}, {51, 1, 50}, {60, 2, 50}, {61, 2, 51}, {50, 3, 50}, {49, 1, 50},
            {40, 2, 50}, {39, 2, 49}, {0, 0, 0}, {0, 8, 40}, {55, 1, 50}, {45, 1, 50}, {52, 0, 52}};
        for (int[] due : dues) {
            ButtonRegistry registry = Make.withButtons(2);
            Make.precedent(registry, "abcdefgh", due[0]);
            Make.file(registry, "abcdefgh".substring(0, 8 - due[1]) + "zzzzzzzz".substring(0, due[1]), 1, 0, 99, 5, 5);
            Check.same("distance", due[1], registry.distance(0, 0));
            registry.hear(0);
            Check.same("percentage by " + due[0] + " and " + due[1], due[2], registry.percentage(0));
            Check.same("award", 99 * due[2] / 100, registry.award(0));
            Check.same("cost", 45, registry.cost(0));
            int share = 45 * (100 - due[2]) / 100;
            Check.same("balance of the plaintiff", 99 * due[2] / 100 - share, registry.balance(1));
            Check.same("balance of the defendant", -(99 * due[2] / 100) - (45 - share), registry.balance(0));
        }
    }

    /** Promise 9: the last day of the deadline is in time. */
    private static void hearInTime() {
        ButtonRegistry registry = Make.withButtons(2);
        registry.setBond(0, 1, 1);
        Make.precedent(registry, "a", 50);
        Make.file(registry, "a", 0, 1, 10, 3, 3);
        Make.file(registry, "b", 0, 1, 10, 3, 5);
        Check.same("in time", 5, registry.hear(0));
        Check.same("in time", 'r', registry.state(0));
        int balance = registry.balance(0);
        Check.same("too late", 0, registry.hear(1));
        Check.same("dismissed", 'd', registry.state(1));
        Check.same("percentage of a dismissed case", 0, registry.percentage(1));
        Check.same("award of a dismissed case", 0, registry.award(1));
        Check.same("cost of a dismissed case", 13, registry.cost(1));
        Check.same("days pass for a dismissed case", 6, registry.day());
        Check.same("the plaintiff pays all", balance - 13, registry.balance(0));
        Check.same("no precedent comes of it", 2, registry.precedentCount());
    }

    /** Promise 9. */
    private static void hearFaults() {
        ButtonRegistry registry = Make.withButtons(2);
        Make.file(registry, "a", 0, 1, 10, 2, 2);
        Make.file(registry, "b", 0, 1, 10, 1, 0);
        Check.refuses("no precedents", registry, UnsupportedOperationException.class, () -> registry.hear(0));
        Check.same("dismissed without precedents", 0, registry.hear(1));
        Check.refuses("heard again", registry, IllegalStateException.class, () -> registry.hear(1));
        Check.refuses("no such case", registry, NoSuchElementException.class, () -> registry.hear(2));
        Check.same("no precedents, but too late now", 0, registry.hear(0));
    }

    /** Promise 9: with 20 precedents the ruling is not added. */
    private static void hearWithAllPrecedents() {
        ButtonRegistry registry = Make.withButtons(2);
        for (int i = 0; i < 19; i++) {
            Make.precedent(registry, "a", i);
        }
        Make.file(registry, "a", 0, 1, 50, 1, 99);
        Make.file(registry, "b", 0, 1, 50, 1, 99);
        registry.hear(0);
        Check.same("the twentieth precedent", 18, registry.precedentPercentage(19));
        registry.hear(1);
        Check.same("no more precedents", 20, registry.precedentCount());
        Check.same("percentage", 23, registry.percentage(1));
        Check.same("the last one is as it was", 18, registry.precedentPercentage(19));
    }

    /** Promise 10. */
    private static void appeal() {
        ButtonRegistry registry = Make.withButtons(3);
        Make.precedent(registry, "seam", 80);
        Make.file(registry, "seam", 0, 1, 50, 1, 9);
        Check.same("hear", 40, registry.hear(0));
        Check.refuses("no other precedent", registry, UnsupportedOperationException.class, () -> registry.appeal(0));
        Make.precedent(registry, "seat", 20);
        int plaintiff = registry.balance(0);
        int defendant = registry.balance(1);
        int cost = registry.cost(0);
        Check.same("appeal", 12, registry.appeal(0));
        Check.same("award", 12, registry.award(0));
        Check.same("percentage", 25, registry.percentage(0));
        Check.same("state", 'r', registry.state(0));
        Check.same("cost without appeals", cost, registry.cost(0));
        Check.same("chest", cost + 6, registry.chest());
        Check.same("plaintiff", plaintiff - 40 + 12 - 3, registry.balance(0));
        Check.same("defendant", defendant + 40 - 12 - 3, registry.balance(1));
        Check.same("the precedent of the ruling", 25, registry.precedentPercentage(1));
        Check.same("the precedent that decided", 80, registry.precedentPercentage(0));
        Check.same("the other precedent", 20, registry.precedentPercentage(2));
        Check.same("no precedent is added", 3, registry.precedentCount());
        Check.same("no day passes", 1, registry.day());
        Check.refuses("appeal again", registry, IllegalStateException.class, () -> registry.appeal(0));
        Check.same("close answers the new award", 12, registry.close(0));
    }

    /** Promise 10: a precedent at the same distance with a greater index wins; percentages are those of then. */
    private static void appealSkipsTwo() {
        ButtonRegistry registry = Make.withButtons(2);
        Make.precedent(registry, "ab", 100);
        Make.precedent(registry, "aa", 0);
        Make.file(registry, "aa", 0, 1, 100 - 1, 1, 99);
        Make.file(registry, "aa", 0, 1, 10, 1, 99);
        registry.hear(0);
        registry.hear(1);
        Check.same("by the last one with the same word", 0, registry.percentage(1));
        Check.same("the first appeal is by the second ruling", 0, registry.appeal(0));
        Check.same("its precedent", 0, registry.precedentPercentage(2));
        Make.precedent(registry, "zz", 90);
        Check.same("the second appeal is not by the first ruling", 0, registry.appeal(1));
        ButtonRegistry other = Make.withButtons(2);
        Make.precedent(other, "ab", 100);
        Make.file(other, "ab", 0, 1, 10, 1, 99);
        Make.file(other, "ac", 0, 1, 10, 1, 99);
        Make.precedent(other, "cab", 0);
        other.hear(0);
        other.hear(1);
        Check.same("by the ruling of the first one", 95, other.percentage(1));
        Check.same("the first appeal is by the second ruling", 9, other.appeal(0));
        Check.same("the ruling is changed", 90, other.precedentPercentage(2));
        Check.same("the second appeal is by the first precedent", 9, other.appeal(1));
        Check.same("percentage", 95, other.percentage(1));
    }

    /** Promise 10: where the ruling was not added, no precedent is changed. */
    private static void appealOfFullPrecedents() {
        ButtonRegistry registry = Make.withButtons(2);
        for (int i = 0; i < 20; i++) {
            Make.precedent(registry, "a", i);
        }
        Make.file(registry, "a", 0, 1, 50, 1, 99);
        registry.hear(0);
        Check.same("by the last one", 19, registry.percentage(0));
        Check.same("appeal by the one before", 9, registry.appeal(0));
        Check.same("percentage", 18, registry.percentage(0));
        for (int i = 0; i < 20; i++) {
            Check.same("precedents are as they were", i, registry.precedentPercentage(i));
        }
    }

    /** Promise 10. */
    private static void appealFaults() {
        ButtonRegistry registry = Make.withButtons(2);
        Make.file(registry, "a", 0, 1, 50, 1, 0);
        Check.refuses("appeal a filed case", registry, IllegalStateException.class, () -> registry.appeal(0));
        registry.hear(0);
        Check.refuses("appeal a dismissed case", registry, IllegalStateException.class, () -> registry.appeal(0));
        Check.refuses("appeal no case", registry, NoSuchElementException.class, () -> registry.appeal(1));
        Make.precedent(registry, "a", 5);
        Check.refuses("a dismissed case still", registry, IllegalStateException.class, () -> registry.appeal(0));
    }

    /** Promise 10: both parties pay 3 coins although the award is the same. */
    private static void appealFeesWithoutChange() {
        ButtonRegistry registry = Make.withButtons(2);
        Make.precedent(registry, "a", 50);
        Make.precedent(registry, "a", 50);
        Make.file(registry, "a", 0, 1, 10, 1, 9);
        registry.hear(0);
        int plaintiff = registry.balance(0);
        int defendant = registry.balance(1);
        Check.same("appeal", 5, registry.appeal(0));
        Check.same("plaintiff", plaintiff - 3, registry.balance(0));
        Check.same("defendant", defendant - 3, registry.balance(1));
    }

    /** Promises 35 to 37. */
    private static void decidedOnly() {
        ButtonRegistry registry = Make.withButtons(2);
        Make.file(registry, "a", 0, 1, 50, 1, 0);
        Check.fails("percentage", IllegalStateException.class, () -> registry.percentage(0));
        Check.fails("award", IllegalStateException.class, () -> registry.award(0));
        Check.fails("cost", IllegalStateException.class, () -> registry.cost(0));
    }
}
