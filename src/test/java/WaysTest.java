/** Promises 43 to 46 and 51: the docket, the transfers and the check. */
public final class WaysTest {
    private WaysTest() {
    }

    public static void main(String[] args) {
        docket();
        docketOfTwelve();
        docketOnlyOfFiled();
        eachWayAlone();
        transfers();
        transfersInParts();
        transfersOfNine();
        consistent();
        Check.finish();
    }

    /** Promises 43 and 44. */
    private static void docket() {
        ButtonRegistry registry = Make.withButtons(2);
        sameDocket(registry, 0);
        Make.file(registry, "a", 0, 1, 40, 3, 2);
        sameDocket(registry, 0);
        Make.file(registry, "a", 0, 1, 40, 3, 3);
        sameDocket(registry, 40);
        Make.file(registry, "a", 0, 1, 30, 2, 4);
        sameDocket(registry, 40);
        Make.file(registry, "a", 0, 1, 20, 2, 4);
        sameDocket(registry, 50);
        Make.file(registry, "a", 1, 0, 99, 5, 8);
        sameDocket(registry, 139);
        registry.passDays(1);
        sameDocket(registry, 129);
        registry.passDays(2);
        sameDocket(registry, 99);
        registry.passDays(1);
        sameDocket(registry, 0);
    }

    private static void sameDocket(ButtonRegistry registry, int due) {
        Check.same("bestDocket", due, registry.bestDocket());
        Check.same("bestDocketBySets", due, registry.bestDocketBySets());
    }

    private static void docketOfTwelve() {
        ButtonRegistry registry = Make.withButtons(2);
        for (int i = 0; i < 12; i++) {
            Make.file(registry, "a", 0, 1, 99, 5, 60);
        }
        sameDocket(registry, 12 * 99);
        registry.passDays(1);
        sameDocket(registry, 11 * 99);
        registry.passDays(54);
        sameDocket(registry, 99);
        registry.passDays(1);
        sameDocket(registry, 0);
    }

    private static void docketOnlyOfFiled() {
        ButtonRegistry registry = Make.withButtons(2);
        Make.precedent(registry, "a", 50);
        Make.file(registry, "a", 0, 1, 10, 1, 999);
        Make.file(registry, "a", 0, 1, 20, 1, 999);
        Make.file(registry, "a", 0, 1, 40, 5, 2);
        Make.file(registry, "a", 0, 1, 40, 1, 0);
        registry.hear(0);
        registry.hear(3);
        sameDocket(registry, 20);
        registry.withdraw(1);
        sameDocket(registry, 0);
    }

    /** Promises 43 to 46: no way takes over what the other one has found before. */
    private static void eachWayAlone() {
        ButtonRegistry registry = Make.withButtons(2);
        Check.same("bestDocketBySets", 0, registry.bestDocketBySets());
        Check.same("fewestTransfersByTrial", 0, registry.fewestTransfersByTrial());
        Make.file(registry, "a", 0, 1, 7, 1, 1);
        Check.same("bestDocketBySets", 7, registry.bestDocketBySets());
        registry.passDays(1);
        registry.hear(0);
        Check.same("fewestTransfersByTrial", 1, registry.fewestTransfersByTrial());
        Check.same("bestDocketBySets", 0, registry.bestDocketBySets());
        registry.undo();
        registry.undo();
        Check.same("bestDocket", 7, registry.bestDocket());
        Check.same("fewestTransfers", 0, registry.fewestTransfers());
        registry.undo();
        Check.same("bestDocket", 0, registry.bestDocket());
        Make.file(registry, "a", 0, 1, 7, 1, 0);
        registry.hear(0);
        Check.same("fewestTransfers", 1, registry.fewestTransfers());
    }

    /** Promises 45 and 46. */
    private static void transfers() {
        ButtonRegistry registry = Make.withButtons(3);
        sameTransfers(registry, 0);
        Make.file(registry, "a", 0, 1, 10, 1, 0);
        registry.hear(0);
        sameTransfers(registry, 1);
        Make.precedent(registry, "a", 50);
        Make.file(registry, "a", 1, 2, 90, 1, 99);
        registry.hear(1);
        sameTransfers(registry, 3);
        registry.give(1, 2, 30);
        sameTransfers(registry, 3);
    }

    private static void sameTransfers(ButtonRegistry registry, int due) {
        Check.same("fewestTransfers", due, registry.fewestTransfers());
        Check.same("fewestTransfersByTrial", due, registry.fewestTransfersByTrial());
    }

    /** Each case costs 29 coins, so that a button that wins 29 coins and pays as much is even with the chest. */
    private static void transfersInParts() {
        ButtonRegistry registry = Make.withButtons(6);
        Make.precedent(registry, "a", 100);
        for (int i = 0; i < 6; i += 2) {
            registry.hear(Make.file(registry, "a", i, i + 1, 10 + i, 1, 99));
        }
        // Balances 10, -39, 12, -41, 14, -43 and 87 in the chest.
        sameTransfers(registry, 6);
        registry.hear(Make.file(registry, "a", 1, 3, 39, 1, 99));
        // Balances 10, 0, 12, -109, 14, -43 and 116 in the chest.
        sameTransfers(registry, 5);
        registry.give(0, 1, 10);
        registry.give(2, 1, 12);
        // Balances 0, 22, 0, -109, 14, -43 and 116 in the chest.
        registry.give(4, 1, 14);
        sameTransfers(registry, 3);
        registry.hear(Make.file(registry, "a", 5, 3, 7, 1, 99));
        // Balances 0, 36, 0, -145, 0, -36 and 145 in the chest.
        sameTransfers(registry, 2);
    }

    private static void transfersOfNine() {
        ButtonRegistry registry = Make.withButtons(8);
        Make.precedent(registry, "a", 100);
        for (int i = 0; i < 7; i++) {
            registry.hear(Make.file(registry, "a", i, 7, 1 << i, 1, 99));
        }
        sameTransfers(registry, 8);
        Check.same("consistent", true, registry.isConsistent());
    }

    /** Promise 51. */
    private static void consistent() {
        ButtonRegistry registry = Make.withButtons(8);
        Check.same("consistent", true, registry.isConsistent());
        for (int i = 0; i < 8; i++) {
            registry.setBond(i, (i + 3) % 8, 1 + i * 2);
            Make.precedent(registry, "abcd".substring(i % 4) + "dcba".substring(i / 2), i * 14);
            Make.file(registry, "bacd".substring(i / 2) + "cdba".substring(i % 4), i, 7 - i, 90 - i, 1 + i % 5, 10 + i);
            Check.same("consistent", true, registry.isConsistent());
        }
        for (int i = 0; i < 8; i++) {
            registry.hear(i);
            Check.same("consistent", true, registry.isConsistent());
        }
        for (int i = 0; i < 3; i++) {
            if (registry.state(i) == 'r') {
                registry.appeal(i);
            }
            Check.same("consistent", true, registry.isConsistent());
        }
    }
}
