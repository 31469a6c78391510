import java.util.NoSuchElementException;

/**
 * The "Throws" lines of promises 17 to 54: the last arguments that are allowed and the first that are not, the empty
 * registry, which exception is first where several apply, and that a refused call changes nothing.
 */
public final class RefusedLooksTest {
    private static final Class<IllegalArgumentException> ARGUMENT = IllegalArgumentException.class;
    private static final Class<IllegalStateException> STATE = IllegalStateException.class;
    private static final Class<IndexOutOfBoundsException> INDEX = IndexOutOfBoundsException.class;
    private static final Class<NoSuchElementException> ELEMENT = NoSuchElementException.class;
    private static final Class<UnsupportedOperationException> UNSUPPORTED = UnsupportedOperationException.class;
    private static final Class<ArithmeticException> ARITHMETIC = ArithmeticException.class;

    /** In Make.inUse(), where there are 3 buttons. */
    private static final int[] NO_BUTTONS = {-1, 3, 7, 8, Integer.MIN_VALUE, Integer.MAX_VALUE};
    /** In Make.inUse(), where case 4 is withdrawn. */
    private static final int[] NO_CASES = {-1, 4, 5, Integer.MIN_VALUE, Integer.MAX_VALUE};
    /** In Make.inUse(), where there are 4 precedents and 4 cases. */
    private static final int[] NOT_OF_FOUR = {-1, 4, 12, 20, Integer.MIN_VALUE, Integer.MAX_VALUE};

    private RefusedLooksTest() {
    }

    public static void main(String[] args) {
        balance();
        tension();
        strains();
        caseAt();
        looksWithoutCase();
        matterLetter();
        decidedOnly();
        nearestPrecedent();
        precedentPercentage();
        distances();
        caseByClaim();
        buttonByBalance();
        meansWithoutCases();
        renderCase();
        renderBonds();
        outputAt();
        Check.finish();
    }

    /** Promise 17: throws if there is no such button. */
    private static void balance() {
        for (int missing : NO_BUTTONS) {
            Twins.refuses("balance", Make::inUse, INDEX, it -> it.balance(missing));
        }
        Twins.refuses("balance without buttons", ButtonRegistry::new, INDEX, it -> it.balance(0));
        Twins.refuses("the ninth of 8", () -> Make.full(""), INDEX, it -> it.balance(8));
        Check.same("the first button", 10, Make.inUse().balance(0));
        Check.same("the last button", -81, Make.inUse().balance(2));
        Check.same("the last of 8", 0, Make.full("").balance(7));
    }

    /** Promise 19: no such button is first, then no bond. */
    private static void tension() {
        for (int missing : NO_BUTTONS) {
            Twins.refuses("no first", Make::inUse, INDEX, it -> it.tension(missing, 0));
            Twins.refuses("no second", Make::inUse, INDEX, it -> it.tension(1, missing));
            Twins.refuses("neither", Make::inUse, INDEX, it -> it.tension(missing, missing));
        }
        Twins.refuses("tension without buttons", ButtonRegistry::new, INDEX, it -> it.tension(0, 0));
        int[][] apart = {{0, 2}, {2, 0}, {1, 2}, {2, 1}, {0, 0}, {1, 1}, {2, 2}};
        for (int[] pair : apart) {
            Twins.refuses("no bond", Make::inUse, ELEMENT, it -> it.tension(pair[0], pair[1]));
        }
        Check.same("tension", 7, Make.inUse().tension(0, 1));
        Check.same("from the other side", 7, Make.inUse().tension(1, 0));
    }

    /** Promises 20 and 21: no such button is first, then both are the same. */
    private static void strains() {
        for (int missing : NO_BUTTONS) {
            int[][] pairs = {{missing, 0}, {1, missing}, {missing, missing}};
            for (int[] pair : pairs) {
                Twins.refuses("strain", Make::inUse, INDEX, it -> it.strain(pair[0], pair[1]));
                Twins.refuses("strainByTable", Make::inUse, INDEX, it -> it.strainByTable(pair[0], pair[1]));
            }
        }
        for (int button = 0; button < 3; button++) {
            int same = button;
            Twins.refuses("strain", Make::inUse, ARGUMENT, it -> it.strain(same, same));
            Twins.refuses("strainByTable", Make::inUse, ARGUMENT, it -> it.strainByTable(same, same));
        }
        Twins.refuses("strain without buttons", ButtonRegistry::new, INDEX, it -> it.strain(0, 0));
        Twins.refuses("strainByTable without buttons", ButtonRegistry::new, INDEX, it -> it.strainByTable(0, 0));
        Check.same("strain to the last button", 25, Make.inUse().strain(0, 2));
        Check.same("strainByTable from the last button", 25, Make.inUse().strainByTable(2, 0));
    }

    /** Promise 26: throws if there is no such position. */
    private static void caseAt() {
        for (int missing : NOT_OF_FOUR) {
            Twins.refuses("caseAt", Make::inUse, INDEX, it -> it.caseAt(missing));
        }
        Twins.refuses("caseAt without cases", ButtonRegistry::new, INDEX, it -> it.caseAt(0));
        Twins.refuses("the thirteenth of 12", () -> Make.full(""), INDEX, it -> it.caseAt(12));
        Check.same("the first case", 0, Make.inUse().caseAt(0));
        Check.same("the last case", 3, Make.inUse().caseAt(3));
        Check.same("the last of 12", 11, Make.full("").caseAt(11));
    }

    /** Promises 27 to 38, 41, 42 and 52: no such case is first, whatever else is wrong. */
    private static void looksWithoutCase() {
        for (int id : NO_CASES) {
            Twins.Step[] looks = {it -> it.plaintiff(id), it -> it.defendant(id), it -> it.claim(id),
                it -> it.duration(id), it -> it.deadline(id), it -> it.state(id), it -> it.matterLength(id),
                it -> it.matterLetter(id, 0), it -> it.matterLetter(id, -1), it -> it.percentage(id),
                it -> it.award(id), it -> it.cost(id), it -> it.nearestPrecedent(id), it -> it.distance(id, 0),
                it -> it.distance(id, -1), it -> it.distance(id, 4), it -> it.distanceByEnds(id, 0),
                it -> it.distanceByEnds(id, -1), it -> it.distanceByEnds(id, 4), it -> it.renderCase(id)};
            for (int i = 0; i < looks.length; i++) {
                Twins.refuses("look " + i + " without case " + id, Make::inUse, ELEMENT, looks[i]);
                Twins.refuses("look " + i + " without cases", ButtonRegistry::new, ELEMENT, looks[i]);
            }
        }
    }

    /** Promise 34: throws if there is no such position. */
    private static void matterLetter() {
        int[] missing = {-1, 4, 8, Integer.MIN_VALUE, Integer.MAX_VALUE};
        for (int position : missing) {
            Twins.refuses("matterLetter", Make::inUse, INDEX, it -> it.matterLetter(0, position));
        }
        Check.same("the first letter", 's', Make.inUse().matterLetter(0, 0));
        Check.same("the last letter", 't', Make.inUse().matterLetter(0, 3));
        Twins.refuses("the second of one letter", () -> Make.full(""), INDEX, it -> it.matterLetter(0, 1));
        Check.same("the only letter", 'b', Make.full("").matterLetter(0, 0));
        Twins.Maker longest = RefusedLooksTest::withLongMatter;
        Twins.refuses("the ninth of 8 letters", longest, INDEX, it -> it.matterLetter(5, 8));
        Check.same("the last of 8 letters", 'h', longest.make().matterLetter(5, 7));
    }

    private static ButtonRegistry withLongMatter() {
        ButtonRegistry registry = Make.inUseWithWord("abcdefgh");
        registry.fileCase(0, 1, 1, 1, 1);
        return registry;
    }

    /** Promises 35 to 37: throws if the case is filed. */
    private static void decidedOnly() {
        Twins.refuses("percentage", Make::inUse, STATE, it -> it.percentage(3));
        Twins.refuses("award", Make::inUse, STATE, it -> it.award(3));
        Twins.refuses("cost", Make::inUse, STATE, it -> it.cost(3));
        int[][] due = {{0, 30, 15, 11}, {1, 70, 28, 33}, {2, 0, 0, 29}};
        ButtonRegistry registry = Make.inUse();
        for (int[] one : due) {
            Check.same("percentage of case " + one[0], one[1], registry.percentage(one[0]));
            Check.same("award of case " + one[0], one[2], registry.award(one[0]));
            Check.same("cost of case " + one[0], one[3], registry.cost(one[0]));
        }
    }

    /** Promise 38: throws if there are no precedents; no such case is first. */
    private static void nearestPrecedent() {
        Twins.Maker maker = () -> {
            ButtonRegistry registry = Make.withButtons(2);
            Make.file(registry, "a", 0, 1, 1, 1, 1);
            return registry;
        };
        Twins.refuses("no precedents", maker, UNSUPPORTED, it -> it.nearestPrecedent(0));
        Twins.refuses("no case and no precedents", maker, ELEMENT, it -> it.nearestPrecedent(1));
        ButtonRegistry registry = maker.make();
        Make.precedent(registry, "zzzzzzzz", 50);
        Check.same("the only precedent, however far", 0, registry.nearestPrecedent(0));
    }

    /** Promise 40: throws if there is no such precedent. */
    private static void precedentPercentage() {
        for (int missing : NOT_OF_FOUR) {
            Twins.refuses("precedentPercentage", Make::inUse, INDEX, it -> it.precedentPercentage(missing));
        }
        Twins.refuses("without precedents", ButtonRegistry::new, INDEX, it -> it.precedentPercentage(0));
        Twins.refuses("the twenty-first", () -> Make.full(""), INDEX, it -> it.precedentPercentage(20));
        Check.same("the first precedent", 80, Make.inUse().precedentPercentage(0));
        Check.same("the last precedent", 70, Make.inUse().precedentPercentage(3));
        Check.same("the twentieth", 19, Make.full("").precedentPercentage(19));
    }

    /** Promises 41 and 42: no such case is first, then no such precedent. */
    private static void distances() {
        for (int missing : NOT_OF_FOUR) {
            Twins.refuses("distance", Make::inUse, INDEX, it -> it.distance(3, missing));
            Twins.refuses("distanceByEnds", Make::inUse, INDEX, it -> it.distanceByEnds(3, missing));
        }
        Twins.refuses("distance to the twenty-first", () -> Make.full(""), INDEX, it -> it.distance(0, 20));
        Twins.refuses("distanceByEnds to it", () -> Make.full(""), INDEX, it -> it.distanceByEnds(0, 20));
        Check.same("distance to the first", 1, Make.inUse().distance(0, 0));
        Check.same("distanceByEnds to the first", 1, Make.inUse().distanceByEnds(0, 0));
        Check.same("distance to the last", 0, Make.inUse().distance(1, 3));
        Check.same("distanceByEnds to the last", 0, Make.inUse().distanceByEnds(1, 3));
        Check.same("distance to the twentieth", 1, Make.full("").distance(11, 19));
        Check.same("distanceByEnds to the twentieth", 1, Make.full("").distanceByEnds(11, 19));
    }

    /** Promise 47: throws if there is no such rank. */
    private static void caseByClaim() {
        for (int missing : NOT_OF_FOUR) {
            Twins.refuses("caseByClaim", Make::inUse, ELEMENT, it -> it.caseByClaim(missing));
        }
        Twins.refuses("caseByClaim without cases", ButtonRegistry::new, ELEMENT, it -> it.caseByClaim(0));
        Twins.refuses("the thirteenth of 12", () -> Make.full(""), ELEMENT, it -> it.caseByClaim(12));
        Check.same("the first rank", 0, Make.inUse().caseByClaim(0));
        Check.same("the last rank", 3, Make.inUse().caseByClaim(3));
        Check.same("the last of 12", 11, Make.full("").caseByClaim(11));
    }

    /** Promise 48: throws if there is no such rank. */
    private static void buttonByBalance() {
        for (int missing : NO_BUTTONS) {
            Twins.refuses("buttonByBalance", Make::inUse, ELEMENT, it -> it.buttonByBalance(missing));
        }
        Twins.refuses("buttonByBalance without buttons", ButtonRegistry::new, ELEMENT, it -> it.buttonByBalance(0));
        Twins.refuses("the ninth of 8", () -> Make.full(""), ELEMENT, it -> it.buttonByBalance(8));
        Check.same("the first rank", 0, Make.inUse().buttonByBalance(0));
        Check.same("the last rank", 2, Make.inUse().buttonByBalance(2));
        Check.same("the last of 8", 7, Make.full("").buttonByBalance(7));
    }

    /** Promises 49 and 50: throws if there are no cases. */
    private static void meansWithoutCases() {
        Twins.Maker emptied = () -> {
            ButtonRegistry registry = Make.inUse();
            registry.close(0);
            registry.close(1);
            registry.close(2);
            registry.withdraw(3);
            return registry;
        };
        Twins.refuses("meanClaim", ButtonRegistry::new, ARITHMETIC, ButtonRegistry::meanClaim);
        Twins.refuses("meanClaim of no more cases", emptied, ARITHMETIC, ButtonRegistry::meanClaim);
        Twins.refuses("ruledShare", ButtonRegistry::new, ARITHMETIC, ButtonRegistry::ruledShare);
        Twins.refuses("ruledShare of no more cases", emptied, ARITHMETIC, ButtonRegistry::ruledShare);
        ButtonRegistry one = emptied.make();
        one.fileCase(0, 1, 99, 1, 1);
        Check.same("the mean of one case", 99.0, one.meanClaim());
        Check.same("none of one case", 0.0f, one.ruledShare());
    }

    /** Promise 52: a refused call leaves the output text as it was; every case that exists can be described. */
    private static void renderCase() {
        for (int id : NO_CASES) {
            Twins.refuses("renderCase", Make::inUse, ELEMENT, it -> it.renderCase(id));
        }
        String[] due = {"#0r 0>1 50x1!9:seat=15", "#1r 1>2 40x2!9:same=28", "#2d 2>0 30x1!0:team=0",
            "#3f 0>2 20x1!99:hem"};
        ButtonRegistry registry = Make.inUse();
        for (int id = 0; id < due.length; id++) {
            Check.same("renderCase", due[id].length(), registry.renderCase(id));
            Check.same("renderCase", due[id], Look.output(registry));
        }
    }

    /** Promise 53: a refused call leaves the output text as it was; every button can be described. */
    private static void renderBonds() {
        for (int missing : NO_BUTTONS) {
            Twins.refuses("renderBonds", Make::inUse, INDEX, it -> it.renderBonds(missing));
        }
        Twins.refuses("renderBonds without buttons", ButtonRegistry::new, INDEX, it -> it.renderBonds(0));
        Twins.refuses("the ninth of 8", () -> Make.full(""), INDEX, it -> it.renderBonds(8));
        String[] due = {"0(10)-1/7", "1(-8)-0/7", "2(-81)"};
        ButtonRegistry registry = Make.inUse();
        for (int button = 0; button < due.length; button++) {
            Check.same("renderBonds", due[button].length(), registry.renderBonds(button));
            Check.same("renderBonds", due[button], Look.output(registry));
        }
        ButtonRegistry full = Make.full("");
        for (int other = 0; other < 7; other++) {
            full.setBond(7, other, other == 6 ? 1 : 20 - other);
        }
        Check.same("the last of 8, with all bonds", 38, full.renderBonds(7));
        Check.same("its bonds", "7(0)-0/20-1/19-2/18-3/17-4/16-5/15-6/1", Look.output(full));
    }

    /** Promise 54: throws if there is no such index; the text is empty initially. */
    private static void outputAt() {
        int[] missing = {-1, 9, Integer.MIN_VALUE, Integer.MAX_VALUE};
        for (int index : missing) {
            Twins.refuses("outputAt", Make::inUse, INDEX, it -> it.outputAt(index));
        }
        Twins.refuses("outputAt of nothing", ButtonRegistry::new, INDEX, it -> it.outputAt(0));
        Check.same("the first character", '1', Make.inUse().outputAt(0));
        Check.same("the last character", '7', Make.inUse().outputAt(8));
        ButtonRegistry registry = Make.inUse();
        registry.renderCase(0);
        Check.same("a longer text", 's', registry.outputAt(15));
        registry.renderBonds(2);
        Check.same("a shorter text", ')', registry.outputAt(5));
        Check.fails("nothing remains of the longer one", INDEX, () -> registry.outputAt(6));
    }
}
