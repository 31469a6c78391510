import java.util.NoSuchElementException;

/** Promises 5 to 8, 11, 12, 25 to 34, 39, 40, 47, 49 and 50: words, precedents and cases. */
public final class CasesTest {
    private CasesTest() {
    }

    public static void main(String[] args) {
        typeLetterAndClearWord();
        addPrecedent();
        fileCase();
        fileCaseFaults();
        withdraw();
        close();
        caseAt();
        oneCase();
        noCase();
        caseByClaim();
        means();
        Check.finish();
    }

    /** Promises 5 and 6. */
    private static void typeLetterAndClearWord() {
        ButtonRegistry registry = new ButtonRegistry();
        char[] wrong = {'`', '{', 'A', 'Z', ' ', '0', 0, 255, Character.MAX_VALUE};
        String letters = "abmnyzza";
        for (int i = 0; i < letters.length(); i++) {
            for (char sign : wrong) {
                Check.refuses("typeLetter", registry, IllegalArgumentException.class, () -> registry.typeLetter(sign));
            }
            Check.same("typeLetter", i + 1, registry.typeLetter(letters.charAt(i)));
        }
        Check.refuses("a ninth letter", registry, IllegalStateException.class, () -> registry.typeLetter('a'));
        Check.refuses("a ninth sign", registry, IllegalArgumentException.class, () -> registry.typeLetter('A'));
        Check.same("clearWord", 8, registry.clearWord());
        Check.same("clearWord again", 0, registry.clearWord());
        Check.same("typeLetter after clearWord", 1, registry.typeLetter('q'));
        registry.passDays(1);
        registry.undo();
        Check.same("undo leaves the word", 1, registry.clearWord());
    }

    /** Promises 7, 39 and 40. */
    private static void addPrecedent() {
        ButtonRegistry registry = new ButtonRegistry();
        Check.refuses("an empty word", registry, UnsupportedOperationException.class, () -> registry.addPrecedent(5));
        Check.refuses("too little", registry, IllegalArgumentException.class, () -> registry.addPrecedent(-1));
        Check.refuses("too much", registry, IllegalArgumentException.class, () -> registry.addPrecedent(101));
        for (int i = 0; i < 20; i++) {
            Check.same("precedentCount", i, registry.precedentCount());
            Make.word(registry, "word");
            Check.refuses("too much", registry, IllegalArgumentException.class, () -> registry.addPrecedent(101));
            Check.same("addPrecedent", i, registry.addPrecedent(i == 0 ? 100 : i - 1));
            Check.same("the word is empty then", 0, registry.clearWord());
        }
        Check.same("precedentCount", 20, registry.precedentCount());
        Check.same("precedentPercentage", 100, registry.precedentPercentage(0));
        Check.same("precedentPercentage", 0, registry.precedentPercentage(1));
        Check.same("precedentPercentage", 18, registry.precedentPercentage(19));
        int[] missing = {-1, 20, Integer.MIN_VALUE, Integer.MAX_VALUE};
        for (int index : missing) {
            Check.fails("no such precedent", IndexOutOfBoundsException.class,
                    () -> registry.precedentPercentage(index));
        }
        Check.refuses("wrong before full", registry, IllegalArgumentException.class, () -> registry.addPrecedent(101));
        Check.refuses("full before empty", registry, IllegalStateException.class, () -> registry.addPrecedent(1));
        Make.word(registry, "abc");
        Check.refuses("full", registry, IllegalStateException.class, () -> registry.addPrecedent(1));
        Check.same("the word remains", 3, registry.clearWord());
    }

    /** Promise 8. */
    private static void fileCase() {
        ButtonRegistry registry = Make.withButtons(2);
        for (int i = 0; i < 12; i++) {
            Check.same("caseCount", i, registry.caseCount());
            Check.same("fileCase", i, Make.file(registry, "matter", i % 2, 1 - i % 2, 1 + i * 8, 1 + i % 5, i * 90));
            Check.same("the word is empty then", 0, registry.clearWord());
        }
        Check.refuses("full before empty", registry, IllegalStateException.class,
                () -> registry.fileCase(0, 1, 1, 1, 1));
        Make.word(registry, "abc");
        Check.refuses("full", registry, IllegalStateException.class, () -> registry.fileCase(0, 1, 1, 1, 1));
        Check.refuses("wrong before full", registry, IllegalArgumentException.class,
                () -> registry.fileCase(0, 1, 1, 1, 1000));
        Check.same("the word remains", 3, registry.clearWord());
        registry.withdraw(3);
        Check.same("ids are not used again", 12, Make.file(registry, "a", 1, 0, 99, 5, 999));
        Check.same("the new one is the last one", 12, registry.caseAt(11));
    }

    /** Promise 8. */
    private static void fileCaseFaults() {
        ButtonRegistry registry = Make.withButtons(2);
        Check.refuses("an empty word", registry, UnsupportedOperationException.class,
                () -> registry.fileCase(0, 1, 1, 1, 1));
        int[][] noButtons = {{-1, 0, 0, 1, 1}, {0, -1, 1, 0, 1}, {2, 0, 1, 1, -1}, {0, 2, 1, 1, 1}, {2, 2, 1, 1, 1}};
        int[][] wrong = {{1, 1, 1, 1, 1}, {0, 1, 0, 1, 1}, {0, 1, 100, 1, 1}, {0, 1, 1, 0, 1}, {0, 1, 1, 6, 1},
            {0, 1, 1, 1, -1}, {0, 1, 1, 1, 1000}, {0, 1, Integer.MIN_VALUE, 1, 1}, {0, 1, 1, Integer.MAX_VALUE, 1}};
        for (int pass = 0; pass < 2; pass++) {
            for (int[] call : noButtons) {
                Check.refuses("fileCase without a button", registry, IndexOutOfBoundsException.class,
                        () -> registry.fileCase(call[0], call[1], call[2], call[3], call[4]));
            }
            for (int[] call : wrong) {
                Check.refuses("fileCase with a wrong argument", registry, IllegalArgumentException.class,
                        () -> registry.fileCase(call[0], call[1], call[2], call[3], call[4]));
            }
            Make.word(registry, "ab");
        }
        Check.same("the word remains", 4, Look.matter(registry, registry.fileCase(0, 1, 99, 5, 0)).length());
        Check.same("the first id", 0, registry.caseAt(0));
    }

    /** Promise 11. */
    private static void withdraw() {
        ButtonRegistry registry = withThreeCases();
        Check.same("withdraw", 20, registry.withdraw(1));
        Check.refuses("withdraw again", registry, NoSuchElementException.class, () -> registry.withdraw(1));
        Check.same("two remain", 2, registry.caseCount());
        Check.same("the others remain", 2, registry.caseAt(1));
        registry.hear(0);
        registry.hear(2);
        Check.refuses("withdraw a ruled case", registry, IllegalStateException.class, () -> registry.withdraw(0));
        Check.refuses("withdraw a dismissed case", registry, IllegalStateException.class, () -> registry.withdraw(2));
        Check.refuses("withdraw no case", registry, NoSuchElementException.class, () -> registry.withdraw(-1));
    }

    /** The first one can be ruled, the last one is too late. */
    private static ButtonRegistry withThreeCases() {
        ButtonRegistry registry = Make.withButtons(3);
        Make.precedent(registry, "a", 60);
        Make.file(registry, "a", 0, 1, 10, 1, 9);
        Make.file(registry, "b", 1, 2, 20, 2, 8);
        Make.file(registry, "abcdefgh", 2, 0, 30, 3, 0);
        return registry;
    }

    /** Promise 12. */
    private static void close() {
        ButtonRegistry registry = withThreeCases();
        Check.refuses("close a filed case", registry, IllegalStateException.class, () -> registry.close(0));
        registry.hear(0);
        registry.hear(2);
        int balance = registry.balance(0);
        Check.same("close a ruled case", 6, registry.close(0));
        Check.refuses("close again", registry, NoSuchElementException.class, () -> registry.close(0));
        Check.same("close a dismissed case", 0, registry.close(2));
        Check.same("one remains", 1, registry.caseCount());
        Check.same("it is the filed one", 1, registry.caseAt(0));
        Check.same("balances remain", balance, registry.balance(0));
        Check.same("precedents remain", 2, registry.precedentCount());
        Check.refuses("close no case", registry, NoSuchElementException.class, () -> registry.close(3));
    }

    /** Promises 25 and 26. */
    private static void caseAt() {
        ButtonRegistry registry = withThreeCases();
        Check.same("caseCount", 3, registry.caseCount());
        registry.withdraw(0);
        Check.same("caseCount", 2, registry.caseCount());
        Check.same("caseAt", 1, registry.caseAt(0));
        Check.same("caseAt", 2, registry.caseAt(1));
        int[] missing = {-1, 2, 12, Integer.MIN_VALUE, Integer.MAX_VALUE};
        for (int position : missing) {
            Check.fails("no such position", IndexOutOfBoundsException.class, () -> registry.caseAt(position));
        }
    }

    /** Promises 27 to 34. */
    private static void oneCase() {
        ButtonRegistry registry = withThreeCases();
        registry.withdraw(0);
        Check.same("plaintiff", 2, registry.plaintiff(2));
        Check.same("defendant", 0, registry.defendant(2));
        Check.same("claim", 30, registry.claim(2));
        Check.same("duration", 3, registry.duration(2));
        Check.same("deadline", 0, registry.deadline(2));
        Check.same("state", 'f', registry.state(2));
        Check.same("matterLength", 8, registry.matterLength(2));
        Check.same("matterLength", 1, registry.matterLength(1));
        Check.same("matterLetter", "abcdefgh", Look.matter(registry, 2));
        int[] missing = {-1, 8, Integer.MIN_VALUE, Integer.MAX_VALUE};
        for (int position : missing) {
            Check.fails("no such letter", IndexOutOfBoundsException.class, () -> registry.matterLetter(2, position));
        }
        Check.fails("no second letter", IndexOutOfBoundsException.class, () -> registry.matterLetter(1, 1));
        registry.hear(2);
        registry.hear(1);
        Check.same("state of a dismissed case", 'd', registry.state(2));
        Check.same("state of a ruled case", 'r', registry.state(1));
    }

    /** Promises 27 to 38, 41, 42 and 52 where there is no such case. */
    private static void noCase() {
        ButtonRegistry registry = withThreeCases();
        registry.withdraw(1);
        int[] missing = {-1, 1, 3, Integer.MIN_VALUE, Integer.MAX_VALUE};
        for (int id : missing) {
            Check.Call[] calls = {() -> registry.plaintiff(id), () -> registry.defendant(id), () -> registry.claim(id),
                () -> registry.duration(id), () -> registry.deadline(id), () -> registry.state(id),
                () -> registry.matterLength(id), () -> registry.matterLetter(id, -1), () -> registry.percentage(id),
                () -> registry.award(id), () -> registry.cost(id), () -> registry.nearestPrecedent(id),
                () -> registry.distance(id, -1), () -> registry.distanceByEnds(id, -1), () -> registry.renderCase(id),
                () -> registry.hear(id), () -> registry.appeal(id), () -> registry.withdraw(id),
                () -> registry.close(id)};
            for (int i = 0; i < calls.length; i++) {
                Check.refuses("call " + i + " without a case", registry, NoSuchElementException.class, calls[i]);
            }
        }
    }

    /** Promise 47. */
    private static void caseByClaim() {
        ButtonRegistry registry = Make.withButtons(2);
        Make.file(registry, "a", 0, 1, 50, 1, 9);
        Make.file(registry, "b", 0, 1, 60, 1, 9);
        Make.file(registry, "c", 0, 1, 50, 1, 3);
        Make.file(registry, "d", 0, 1, 50, 1, 9);
        Make.file(registry, "e", 0, 1, 99, 5, 0);
        Make.file(registry, "f", 0, 1, 1, 1, 0);
        registry.hear(4);
        int[] due = {4, 1, 2, 0, 3, 5};
        for (int rank = 0; rank < due.length; rank++) {
            Check.same("caseByClaim", due[rank], registry.caseByClaim(rank));
        }
        int[] missing = {-1, 6, Integer.MIN_VALUE, Integer.MAX_VALUE};
        for (int rank : missing) {
            Check.fails("no such rank", NoSuchElementException.class, () -> registry.caseByClaim(rank));
        }
    }

    /** Promises 49 and 50. */
    private static void means() {
        ButtonRegistry registry = withThreeCases();
        Check.same("meanClaim", 20.0, registry.meanClaim());
        Check.same("ruledShare", 0.0f, registry.ruledShare());
        registry.hear(0);
        registry.hear(2);
        Check.same("ruledShare", 1.0f / 3.0f, registry.ruledShare());
        registry.close(2);
        Check.same("meanClaim", 15.0, registry.meanClaim());
        Check.same("ruledShare", 0.5f, registry.ruledShare());
        Make.file(registry, "z", 0, 1, 1, 1, 0);
        Check.same("meanClaim", 31.0 / 3.0, registry.meanClaim());
        registry.withdraw(1);
        registry.withdraw(3);
        Check.same("ruledShare", 1.0f, registry.ruledShare());
        registry.close(0);
        Check.fails("no mean", ArithmeticException.class, registry::meanClaim);
        Check.fails("no share", ArithmeticException.class, registry::ruledShare);
    }
}
