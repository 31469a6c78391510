/** "Hearings", "Appeals", "Docket" and "Transfers" of the document: a test for each sentence that names a boundary. */
public final class HearingEdgesTest {
    private HearingEdgesTest() {
    }

    public static void main(String[] args) {
        hearingTakesItsDays();
        dayOfTheDeadline();
        lastDeadline();
        deadlineThatIsPast();
        percentageAbove50();
        percentageAt50();
        percentageBelow50();
        percentageOfDismissed();
        fewerThan20Precedents();
        exactly20Precedents();
        awardRoundsDown();
        costOfDaysAndStrain();
        sharesOfTheCost();
        dismissedPaysAll();
        appealedOnce();
        appealFindsNoPrecedent();
        appealLooksAtNeither();
        appealWithoutOwnPrecedent();
        appealChangesOwnPrecedent();
        appealTakesPercentagesOfThen();
        appealMovesTheAward();
        emptyDocket();
        docketOnTheLastDay();
        docketInAnyOrder();
        docketLeavesOut();
        docketOfTwelve();
        docketOfFiledAlone();
        noTransfers();
        transfersOfTwo();
        transfersWithTheChest();
        transfersOfSingleCoins();
        transferOfOneCoin();
        mostTransfers();
        transfersOfPairs();
        bothWaysAgree();
        Check.finish();
    }

    /** "A hearing takes as many days as its duration, so that the present day, initially 0, increases by them." */
    private static void hearingTakesItsDays() {
        ButtonRegistry registry = Make.withButtons(2);
        Check.same("initially", 0, registry.day());
        Make.precedent(registry, "a", 50);
        int day = 0;
        for (int duration = 1; duration <= 5; duration++) {
            registry.hear(Make.file(registry, "a", 0, 1, 1, duration, 999));
            day += duration;
            Check.same("after a ruling", day, registry.day());
            registry.hear(Make.file(registry, "a", 0, 1, 1, duration, 0));
            day += duration;
            Check.same("after a dismissal", day, registry.day());
        }
    }

    /** "If the present day is greater than the deadline then, the case is dismissed. Otherwise the case is ruled." */
    private static void dayOfTheDeadline() {
        for (int duration = 1; duration <= 5; duration++) {
            for (int before = 0; before < 3; before++) {
                Check.same("one day before", 'r', stateAfter(before, duration, before + duration + 1));
                Check.same("on the day", 'r', stateAfter(before, duration, before + duration));
                Check.same("one day after", 'd', stateAfter(before, duration, before + duration - 1));
            }
        }
    }

    private static char stateAfter(int days, int duration, int deadline) {
        ButtonRegistry registry = Make.withButtons(2);
        Make.precedent(registry, "a", 50);
        for (int i = 0; i < days; i++) {
            registry.passDays(1);
        }
        int id = Make.file(registry, "a", 0, 1, 1, duration, deadline);
        registry.hear(id);
        return registry.state(id);
    }

    /** "A deadline, a day from 0 to 999": the day goes on after the last one. */
    private static void lastDeadline() {
        ButtonRegistry registry = Make.withButtons(2);
        Make.precedent(registry, "a", 50);
        Make.file(registry, "a", 0, 1, 10, 5, 999);
        Make.file(registry, "a", 0, 1, 10, 1, 999);
        for (int i = 0; i < 10; i++) {
            registry.passDays(99);
        }
        registry.passDays(4);
        Check.same("994", 994, registry.day());
        Check.same("docket on day 994", 10, registry.bestDocket());
        Check.same("docket by sets on day 994", 10, registry.bestDocketBySets());
        Check.same("ruled on day 999", 5, registry.hear(0));
        Check.same("999", 999, registry.day());
        Check.same("no docket on day 999", 0, registry.bestDocket());
        Check.same("no docket by sets on day 999", 0, registry.bestDocketBySets());
        Check.same("dismissed on day 1000", 0, registry.hear(1));
        Check.same("dismissed", 'd', registry.state(1));
        Check.same("1000", 1000, registry.day());
        Check.same("days still pass", 1099, registry.passDays(99));
    }

    /** "A day from 0 to 999, which can be past": such a case is filed, and dismissed when it is heard. */
    private static void deadlineThatIsPast() {
        ButtonRegistry registry = Make.withButtons(2);
        registry.passDays(7);
        int id = Make.file(registry, "a", 0, 1, 10, 1, 6);
        Check.same("it is filed", 'f', registry.state(id));
        Check.same("hear", 0, registry.hear(id));
        Check.same("dismissed, without precedents", 'd', registry.state(id));
        int today = Make.file(registry, "a", 0, 1, 10, 1, 8);
        Check.same("today is too late for a day's hearing", 0, registry.hear(today));
        Check.same("dismissed", 'd', registry.state(today));
    }

    private static int percentage(int precedent, int distance) {
        ButtonRegistry registry = Make.withButtons(2);
        Make.precedent(registry, "abcdefgh", precedent);
        String matter = "abcdefgh".substring(0, 8 - distance) + "zzzzzzzz".substring(0, distance);
        int id = Make.file(registry, matter, 0, 1, 1, 1, 9);
        registry.hear(id);
        Check.same("the precedent gets it, too", registry.percentage(id), registry.precedentPercentage(1));
        return registry.percentage(id);
    }

    /** "p minus 5 * d, but not below 50, if p is greater than 50". */
    private static void percentageAbove50() {
        int[][] dues = {{51, 0, 51}, {51, 1, 50}, {54, 1, 50}, {55, 1, 50}, {56, 1, 51}, {60, 2, 50}, {61, 2, 51},
            {89, 8, 50}, {90, 8, 50}, {91, 8, 51}, {100, 0, 100}, {100, 1, 95}, {100, 8, 60}};
        for (int[] due : dues) {
            Check.same("by " + due[0] + " at " + due[1], due[2], percentage(due[0], due[1]));
        }
    }

    /** "And p plus 5 * d, but not above 50, otherwise": 50 remains 50. */
    private static void percentageAt50() {
        for (int distance = 0; distance <= 8; distance++) {
            Check.same("by 50 at " + distance, 50, percentage(50, distance));
        }
    }

    /** "And p plus 5 * d, but not above 50, otherwise". */
    private static void percentageBelow50() {
        int[][] dues = {{49, 0, 49}, {49, 1, 50}, {46, 1, 50}, {45, 1, 50}, {44, 1, 49}, {40, 2, 50}, {39, 2, 49},
            {11, 8, 50}, {10, 8, 50}, {9, 8, 49}, {0, 0, 0}, {0, 1, 5}, {0, 8, 40}};
        for (int[] due : dues) {
            Check.same("by " + due[0] + " at " + due[1], due[2], percentage(due[0], due[1]));
        }
    }

    /** "The case is dismissed, and its percentage is 0", whatever the precedents say; it is none of them. */
    private static void percentageOfDismissed() {
        ButtonRegistry registry = Make.withButtons(2);
        Make.precedent(registry, "a", 100);
        Make.file(registry, "a", 0, 1, 99, 1, 0);
        Check.same("hear", 0, registry.hear(0));
        Check.same("percentage", 0, registry.percentage(0));
        Check.same("award", 0, registry.award(0));
        Check.same("precedents", 1, registry.precedentCount());
    }

    private static ButtonRegistry withPrecedents(int count) {
        ButtonRegistry registry = Make.withButtons(2);
        for (int i = 0; i < count; i++) {
            Make.precedent(registry, "a", i);
        }
        return registry;
    }

    /** "If there are fewer than 20 precedents, the ruling is added as a precedent." */
    private static void fewerThan20Precedents() {
        for (int before = 1; before < 20; before++) {
            ButtonRegistry registry = withPrecedents(before);
            registry.hear(Make.file(registry, "ab", 0, 1, 10, 1, 9));
            Check.same("one more", before + 1, registry.precedentCount());
            Check.same("its percentage", before - 1 + 5, registry.precedentPercentage(before));
            Check.same("its matter", 0, registry.distance(0, before));
            Check.same("it is the nearest one", before, registry.nearestPrecedent(0));
        }
    }

    /** "If there are fewer than 20 precedents": with exactly 20 it is not added, and none is changed. */
    private static void exactly20Precedents() {
        ButtonRegistry registry = withPrecedents(20);
        registry.hear(Make.file(registry, "ab", 0, 1, 10, 1, 9));
        Check.same("ruled", 24, registry.percentage(0));
        Check.same("still 20", 20, registry.precedentCount());
        for (int i = 0; i < 20; i++) {
            Check.same("as it was", i, registry.precedentPercentage(i));
            Check.same("its matter", 1, registry.distance(0, i));
        }
    }

    /** "The award is the claim times the percentage, divided by 100", and "divisions round down". */
    private static void awardRoundsDown() {
        int[][] dues = {{1, 0, 0}, {1, 99, 0}, {1, 100, 1}, {99, 1, 0}, {99, 2, 1}, {99, 99, 98}, {99, 100, 99},
            {3, 33, 0}, {3, 34, 1}, {50, 1, 0}, {50, 2, 1}, {99, 50, 49}};
        for (int[] due : dues) {
            ButtonRegistry registry = Make.withButtons(2);
            Make.precedent(registry, "a", due[1]);
            Check.same(due[0] + " at " + due[1], due[2], registry.hear(Make.file(registry, "a", 0, 1, due[0], 1, 9)));
            Check.same("award", due[2], registry.award(0));
        }
    }

    /** "The cost is 4 coins for each day of the duration, plus the strain between the parties" in the hearing. */
    private static void costOfDaysAndStrain() {
        int[][] dues = {{1, 1, 5}, {5, 1, 21}, {1, 20, 24}, {5, 20, 40}, {1, 0, 29}, {5, 0, 45}};
        for (int[] due : dues) {
            ButtonRegistry registry = Make.withButtons(3);
            if (due[1] > 0) {
                registry.setBond(0, 2, due[1]);
                registry.setBond(2, 1, 1);
            }
            Make.precedent(registry, "a", 50);
            Make.file(registry, "a", 0, 1, 10, due[0], 99);
            registry.hear(0);
            Check.same("cost", due[2], registry.cost(0));
            Check.same("chest", due[2], registry.chest());
            registry.setBond(0, 1, 7);
            Check.same("a later bond does not change it", due[2], registry.cost(0));
        }
    }

    /** "The cost times 100 minus the percentage, divided by 100", and "the defendant pays the rest of the cost". */
    private static void sharesOfTheCost() {
        int[][] dues = {{0, 5, 0}, {1, 4, 1}, {19, 4, 1}, {20, 4, 1}, {21, 3, 2}, {50, 2, 3}, {80, 1, 4}, {81, 0, 5},
            {99, 0, 5}, {100, 0, 5}};
        for (int[] due : dues) {
            ButtonRegistry registry = Make.withButtons(2);
            registry.setBond(0, 1, 1);
            Make.precedent(registry, "a", due[0]);
            int award = registry.hear(Make.file(registry, "a", 1, 0, 99, 1, 9));
            Check.same("cost", 5, registry.cost(0));
            Check.same("the plaintiff at " + due[0], award - due[1], registry.balance(1));
            Check.same("the defendant at " + due[0], -award - due[2], registry.balance(0));
            Check.same("the chest", 5, registry.chest());
        }
    }

    /** "This holds for a dismissed case, too: its award is 0, and the plaintiff pays all of its cost." */
    private static void dismissedPaysAll() {
        ButtonRegistry registry = Make.withButtons(3);
        registry.setBond(1, 2, 20);
        Make.file(registry, "a", 2, 1, 99, 5, 4);
        Check.same("hear", 0, registry.hear(0));
        Check.same("cost", 40, registry.cost(0));
        Check.same("the plaintiff", -40, registry.balance(2));
        Check.same("the defendant", 0, registry.balance(1));
        Check.same("the chest", 40, registry.chest());
    }

    /** "A ruled case can be appealed once." */
    private static void appealedOnce() {
        ButtonRegistry registry = withPrecedents(3);
        registry.hear(Make.file(registry, "a", 0, 1, 99, 1, 9));
        registry.appeal(0);
        Check.same("ruled still", 'r', registry.state(0));
        Check.fails("once more", IllegalStateException.class, () -> registry.appeal(0));
        registry.undo();
        Check.same("after undo it can be appealed", 0, registry.appeal(0));
        Check.fails("once more", IllegalStateException.class, () -> registry.appeal(0));
        registry.hear(Make.file(registry, "a", 0, 1, 99, 1, 9));
        Check.same("another case can", 1, registry.percentage(1));
        Check.same("appeal", 1, registry.appeal(1));
    }

    /** An appeal that finds no precedent to look at: there are only the one that decided and the ruling. */
    private static void appealFindsNoPrecedent() {
        ButtonRegistry registry = withPrecedents(1);
        registry.hear(Make.file(registry, "a", 0, 1, 99, 1, 99));
        Check.same("two precedents", 2, registry.precedentCount());
        Check.fails("appeal", UnsupportedOperationException.class, () -> registry.appeal(0));
        Check.same("it has not been appealed", 29, registry.chest());
        registry.hear(Make.file(registry, "a", 0, 1, 99, 1, 99));
        Check.same("the other ruling can be looked at", 0, registry.appeal(0));
        Check.same("and so can the first precedent, and the first ruling not", 0, registry.appeal(1));
    }

    /** "Neither the precedent that decided in the hearing nor the one that the ruling was added as is looked at." */
    private static void appealLooksAtNeither() {
        ButtonRegistry registry = Make.withButtons(2);
        Make.precedent(registry, "abcdefgh", 100);
        Make.precedent(registry, "abcd", 20);
        Make.precedent(registry, "abc", 80);
        registry.hear(Make.file(registry, "abc", 0, 1, 99, 1, 9));
        Check.same("by the same word", 80, registry.percentage(0));
        registry.appeal(0);
        Check.same("by the next one, although two are nearer", 25, registry.percentage(0));
        ButtonRegistry equal = withPrecedents(5);
        equal.hear(Make.file(equal, "a", 0, 1, 99, 1, 9));
        Check.same("by the last one of the same word", 4, equal.percentage(0));
        equal.appeal(0);
        Check.same("by the one before it", 3, equal.percentage(0));
    }

    /** "If the ruling was added as a precedent, this gets the new percentage": here it was not added. */
    private static void appealWithoutOwnPrecedent() {
        ButtonRegistry registry = withPrecedents(20);
        registry.hear(Make.file(registry, "a", 0, 1, 99, 1, 9));
        Check.same("by the last one", 19, registry.percentage(0));
        registry.appeal(0);
        Check.same("by the one before it", 18, registry.percentage(0));
        for (int i = 0; i < 20; i++) {
            Check.same("none is changed", i, registry.precedentPercentage(i));
        }
    }

    /** "If the ruling was added as a precedent, this gets the new percentage": here it is the twentieth. */
    private static void appealChangesOwnPrecedent() {
        ButtonRegistry registry = withPrecedents(19);
        registry.hear(Make.file(registry, "ab", 0, 1, 99, 1, 9));
        Check.same("the ruling", 23, registry.precedentPercentage(19));
        registry.appeal(0);
        Check.same("the new ruling", 22, registry.precedentPercentage(19));
        Check.same("its matter", 0, registry.distance(0, 19));
        for (int i = 0; i < 19; i++) {
            Check.same("no other one is changed", i, registry.precedentPercentage(i));
        }
        Check.same("still 20", 20, registry.precedentCount());
    }

    /** "The new percentage is found as in the hearing", with the precedents that there are in the appeal. */
    private static void appealTakesPercentagesOfThen() {
        ButtonRegistry registry = Make.withButtons(2);
        Make.precedent(registry, "a", 10);
        Make.precedent(registry, "a", 60);
        registry.hear(Make.file(registry, "a", 0, 1, 99, 1, 99));
        registry.hear(Make.file(registry, "a", 0, 1, 99, 1, 99));
        Check.same("by the first ruling", 60, registry.percentage(1));
        Make.precedent(registry, "abcdefgh", 100);
        Make.precedent(registry, "ab", 90);
        registry.appeal(0);
        Check.same("by the second ruling", 60, registry.percentage(0));
        registry.appeal(1);
        Check.same("by the precedent that was first", 60, registry.percentage(1));
        ButtonRegistry changed = Make.withButtons(2);
        Make.precedent(changed, "ab", 10);
        Make.file(changed, "b", 0, 1, 99, 1, 99);
        changed.hear(0);
        Make.precedent(changed, "c", 90);
        Make.file(changed, "b", 0, 1, 99, 1, 99);
        changed.hear(1);
        Check.same("by the first ruling", 15, changed.percentage(1));
        Make.precedent(changed, "b", 100);
        changed.appeal(0);
        Check.same("by the new precedent", 100, changed.percentage(0));
        changed.hear(Make.file(changed, "zzzzzzzz", 0, 1, 99, 1, 99));
        Check.same("the first ruling has its new percentage", 100, changed.precedentPercentage(1));
    }

    /** "The new award takes the place of the old one, and both pay 3 coins. The shares of the cost do not change." */
    private static void appealMovesTheAward() {
        ButtonRegistry registry = Make.withButtons(2);
        registry.setBond(0, 1, 1);
        Make.precedent(registry, "a", 100);
        Make.file(registry, "a", 0, 1, 99, 1, 9);
        registry.hear(0);
        Check.same("the plaintiff", 99, registry.balance(0));
        Check.same("the defendant", -99 - 5, registry.balance(1));
        Make.precedent(registry, "a", 0);
        Check.same("appeal", 0, registry.appeal(0));
        Check.same("the plaintiff", -3, registry.balance(0));
        Check.same("the defendant", -5 - 3, registry.balance(1));
        Check.same("the chest", 5 + 6, registry.chest());
        Check.same("the cost", 5, registry.cost(0));
        Check.same("the day", 1, registry.day());
    }

    private static void docket(ButtonRegistry registry, int due) {
        Check.same("bestDocket", due, registry.bestDocket());
        Check.same("bestDocketBySets", due, registry.bestDocketBySets());
    }

    /** A docket without cases. */
    private static void emptyDocket() {
        docket(new ButtonRegistry(), 0);
        ButtonRegistry registry = Make.withButtons(2);
        docket(registry, 0);
        Make.file(registry, "a", 0, 1, 99, 1, 0);
        docket(registry, 0);
        Make.file(registry, "a", 0, 1, 1, 1, 1);
        docket(registry, 1);
        registry.withdraw(1);
        docket(registry, 0);
    }

    /** "None is dismissed": the day of the deadline is in time. */
    private static void docketOnTheLastDay() {
        for (int duration = 1; duration <= 5; duration++) {
            ButtonRegistry registry = Make.withButtons(2);
            Make.file(registry, "a", 0, 1, 50, duration, duration + 1);
            docket(registry, 50);
            registry.passDays(1);
            docket(registry, 50);
            registry.passDays(1);
            docket(registry, 0);
        }
    }

    /** "If there is an order in which, if they are heard one after the other, none is dismissed." */
    private static void docketInAnyOrder() {
        int[][] cases = {{30, 5, 12}, {20, 4, 7}, {10, 3, 3}};
        int[][] orders = {{0, 1, 2}, {0, 2, 1}, {1, 0, 2}, {1, 2, 0}, {2, 0, 1}, {2, 1, 0}};
        for (int[] order : orders) {
            ButtonRegistry registry = Make.withButtons(2);
            for (int i : order) {
                Make.file(registry, "a", 0, 1, cases[i][0], cases[i][1], cases[i][2]);
            }
            docket(registry, 60);
            registry.passDays(1);
            docket(registry, 50);
        }
    }

    /** "The greatest sum of the claims of such a set": it may have to leave out cases, other ones on other days. */
    private static void docketLeavesOut() {
        ButtonRegistry registry = Make.withButtons(2);
        Make.file(registry, "a", 0, 1, 30, 5, 12);
        Make.file(registry, "a", 0, 1, 20, 4, 7);
        Make.file(registry, "a", 0, 1, 10, 3, 3);
        docket(registry, 60);
        Make.file(registry, "a", 0, 1, 9, 1, 12);
        docket(registry, 60);
        Make.file(registry, "a", 0, 1, 11, 1, 3);
        docket(registry, 70);
        registry.passDays(1);
        docket(registry, 70);
        registry.passDays(1);
        docket(registry, 61);
    }

    /** 12 cases of 5 days each take 60 days. */
    private static void docketOfTwelve() {
        ButtonRegistry registry = Make.withButtons(2);
        for (int i = 0; i < 12; i++) {
            Make.file(registry, "a", 0, 1, 99 - i, 5, 60 - 5 * i);
        }
        int all = 12 * 99 - 66;
        docket(registry, all);
        registry.passDays(1);
        docket(registry, all - 88);
        registry.undo();
        registry.withdraw(0);
        docket(registry, all - 99);
        Make.file(registry, "a", 0, 1, 99, 5, 59);
        docket(registry, all - 88);
    }

    /** "A set of filed cases": neither ruled nor dismissed ones. */
    private static void docketOfFiledAlone() {
        ButtonRegistry registry = Make.withButtons(2);
        Make.precedent(registry, "a", 50);
        Make.file(registry, "a", 0, 1, 7, 1, 99);
        Make.file(registry, "a", 0, 1, 8, 1, 0);
        Make.file(registry, "a", 0, 1, 9, 1, 99);
        docket(registry, 16);
        registry.hear(1);
        docket(registry, 16);
        registry.hear(0);
        docket(registry, 9);
        registry.hear(2);
        docket(registry, 0);
    }

    private static void transfers(ButtonRegistry registry, int due) {
        Check.same("fewestTransfers", due, registry.fewestTransfers());
        Check.same("fewestTransfersByTrial", due, registry.fewestTransfersByTrial());
    }

    /** The plaintiff gets the claim, and the defendant pays the cost of 5 coins, if they have a bond of tension 1. */
    private static void win(ButtonRegistry registry, int plaintiff, int defendant, int claim) {
        registry.hear(Make.file(registry, "a", plaintiff, defendant, claim, 1, 999));
    }

    private static ButtonRegistry starOf(int buttons) {
        ButtonRegistry registry = Make.withButtons(buttons);
        for (int i = 1; i < buttons; i++) {
            registry.setBond(0, i, 1);
        }
        Make.precedent(registry, "a", 100);
        return registry;
    }

    /** All balances and the chest are 0. */
    private static void noTransfers() {
        transfers(new ButtonRegistry(), 0);
        transfers(Make.withButtons(1), 0);
        transfers(Make.withButtons(8), 0);
    }

    /** A debt to the chest alone. */
    private static void transfersOfTwo() {
        ButtonRegistry registry = starOf(8);
        registry.hear(Make.file(registry, "a", 3, 0, 50, 1, 0));
        Check.same("the chest", 5, registry.chest());
        transfers(registry, 1);
        registry.hear(Make.file(registry, "a", 4, 0, 50, 1, 0));
        transfers(registry, 2);
    }

    /** "A transfer moves some coins from one of the buttons and the chest to another one of them." */
    private static void transfersWithTheChest() {
        ButtonRegistry registry = starOf(4);
        win(registry, 0, 1, 10);
        transfers(registry, 2);
        win(registry, 1, 2, 15);
        // Balances 10, 0, -20 and 10 in the chest.
        transfers(registry, 2);
        win(registry, 3, 0, 10);
        // Balances -5, 0, -20, 10 and 15 in the chest.
        transfers(registry, 3);
        registry.give(3, 0, 5);
        // Balances 0, 0, -20, 5 and 15 in the chest.
        transfers(registry, 2);
        registry.give(3, 2, 5);
        transfers(registry, 1);
    }

    /** A single coin is to be moved, too. */
    private static void transfersOfSingleCoins() {
        ButtonRegistry one = starOf(3);
        win(one, 0, 2, 1);
        win(one, 1, 2, 1);
        // Balances 1, 1, -12 and 10 in the chest.
        transfers(one, 3);
        ButtonRegistry other = starOf(4);
        win(other, 0, 1, 1);
        win(other, 0, 2, 1);
        win(other, 0, 3, 99);
        other.give(0, 1, 5);
        other.give(0, 2, 5);
        // Balances 91, -1, -1, -104 and 15 in the chest.
        transfers(other, 4);
        win(other, 1, 3, 2);
        // Balances 91, 1, -1, -111 and 20 in the chest.
        transfers(other, 3);
    }

    /** A button that owes one coin to another one, beside a button that owes all that is in the chest. */
    private static void transferOfOneCoin() {
        for (int debtor = 1; debtor <= 2; debtor++) {
            ButtonRegistry registry = starOf(3);
            win(registry, 3 - debtor, 0, 5);
            registry.hear(Make.file(registry, "a", debtor, 0, 1, 1, 0));
            registry.give(3 - debtor, debtor, 4);
            Check.same("it owes one coin", -1, registry.balance(debtor));
            Check.same("the other one has one", 1, registry.balance(3 - debtor));
            Check.same("the debt to the chest", -registry.chest(), registry.balance(0));
            transfers(registry, 2);
        }
    }

    /** 8 buttons and the chest, where no part adds up to 0, need 8 transfers. */
    private static void mostTransfers() {
        ButtonRegistry registry = starOf(8);
        for (int i = 1; i < 8; i++) {
            win(registry, i, 0, 1 << i - 1);
        }
        // Balances 1, 2, 4, 8, 16, 32, 64, -162 and 35 in the chest.
        Check.same("the greatest debt", -162, registry.balance(0));
        transfers(registry, 8);
    }

    /** Parts that add up to 0 are moved each on its own: 4 pairs need 4 transfers, 3 pairs and 3 together 5. */
    private static void transfersOfPairs() {
        ButtonRegistry registry = starOf(8);
        for (int loser = 2; loser <= 6; loser += 2) {
            win(registry, loser - 1, 0, 5 * loser / 2);
            for (int i = 0; i < loser / 2; i++) {
                registry.hear(Make.file(registry, "a", loser, 0, 1, 1, 0));
            }
        }
        int[] balances = {-45, 5, -5, 10, -10, 15, -15, 0};
        for (int i = 0; i < 8; i++) {
            Check.same("balance of " + i, balances[i], registry.balance(i));
        }
        Check.same("the chest", 45, registry.chest());
        transfers(registry, 4);
        win(registry, 7, 0, 7);
        // Balances -57, 5, -5, 10, -10, 15, -15, 7 and 50 in the chest.
        transfers(registry, 5);
    }

    /** Promise 51: the empty registry, one of everything, and all that there can be at most. */
    private static void bothWaysAgree() {
        Check.same("empty", true, new ButtonRegistry().isConsistent());
        Check.same("one button", true, Make.withButtons(1).isConsistent());
        Check.same("in use", true, Make.inUse().isConsistent());
        ButtonRegistry registry = Make.full("");
        Check.same("full", true, registry.isConsistent());
        for (int i = 0; i < 12; i++) {
            registry.hear(i);
            registry.setBond(i % 8, (i + 3) % 8, 1 + i);
            Check.same("with a case less to hear", true, registry.isConsistent());
        }
    }
}
