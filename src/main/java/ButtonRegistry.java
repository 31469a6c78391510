import java.util.ArrayList;
import java.util.NoSuchElementException;

/** A registry of arbitration between buttons on a wardrobe; README.md tells how to use it. */
public final class ButtonRegistry {
    private static final int MOST_BUTTONS = 8;
    private static final int MOST_TENSION = 20;
    private static final int UNJOINED_STRAIN = 25;
    private static final int MOST_LETTERS = 8;
    private static final int MOST_PRECEDENTS = 20;
    private static final int MOST_CASES = 12;
    private static final int MOST_DURATION = 5;
    private static final int MOST_SCRIPT_CHARACTERS = 60;
    private static final int MOST_UNDOS = 8;

    private static final char FILED = 'f';
    private static final char RULED = 'r';
    private static final char DISMISSED = 'd';

    private static final int NONE = -1;

    // No command answers a number below zero, so that such numbers can tell its faults.
    private static final int NO_INDEX = -1;
    private static final int WRONG_ARGUMENT = -2;
    private static final int WRONG_STATE = -3;
    private static final int NO_ELEMENT = -4;
    private static final int UNSUPPORTED = -5;

    private State now = new State();
    private State snapshot = now;
    private boolean snapshotTaken = false;
    private final ArrayList<State> earlier = new ArrayList<>();
    private final StringBuilder word = new StringBuilder();
    private final StringBuilder script = new StringBuilder();
    private final StringBuilder output = new StringBuilder();
    private int latestErrorPosition = NONE;
    private int latestFailedCommand = NONE;
    private final Court court = new Court();
    private final Docket docket = new Docket();
    private final Settlement settlement = new Settlement();

    public ButtonRegistry() {
    }

    // Changes. Each works on a copy, so that one that is refused changes nothing.

    public int addButton() throws IllegalStateException {
        State next = now.copy();
        return accept(next, court.enterButton(next));
    }

    public int setBond(int first, int second, int tension) throws IndexOutOfBoundsException, IllegalArgumentException {
        State next = now.copy();
        return accept(next, court.joinButtons(next, first, second, tension));
    }

    public int cutBond(int first, int second) throws IndexOutOfBoundsException, NoSuchElementException {
        State next = now.copy();
        return accept(next, court.separateButtons(next, first, second));
    }

    public int addPrecedent(int percentage)
            throws IllegalArgumentException, IllegalStateException, UnsupportedOperationException {
        State next = now.copy();
        int index = accept(next, court.enterPrecedent(next, percentage, word.toString()));
        word.setLength(0);
        return index;
    }

    public int fileCase(int plaintiff, int defendant, int claim, int duration, int deadline)
            throws IndexOutOfBoundsException, IllegalArgumentException, IllegalStateException,
            UnsupportedOperationException {
        State next = now.copy();
        String matter = word.toString();
        int id = accept(next, court.enterCase(next, plaintiff, defendant, claim, duration, deadline, matter));
        word.setLength(0);
        return id;
    }

    public int hear(int id) throws NoSuchElementException, IllegalStateException, UnsupportedOperationException {
        State next = now.copy();
        return accept(next, court.hearCase(next, id));
    }

    public int appeal(int id) throws NoSuchElementException, IllegalStateException, UnsupportedOperationException {
        State next = now.copy();
        return accept(next, court.appealCase(next, id));
    }

    public int withdraw(int id) throws NoSuchElementException, IllegalStateException {
        State next = now.copy();
        return accept(next, court.withdrawCase(next, id));
    }

    public int close(int id) throws NoSuchElementException, IllegalStateException {
        State next = now.copy();
        return accept(next, court.closeCase(next, id));
    }

    public int give(int from, int to, int coins)
            throws IndexOutOfBoundsException, IllegalArgumentException, IllegalStateException {
        State next = now.copy();
        return accept(next, court.moveCoins(next, from, to, coins));
    }

    public int passDays(int days) throws IllegalArgumentException {
        State next = now.copy();
        return accept(next, court.letDaysPass(next, days));
    }

    private int accept(State next, int answer) {
        refuseFault(answer);
        if (earlier.size() >= MOST_UNDOS) {
            earlier.remove(0);
        }
        earlier.add(now);
        now = next;
        return answer;
    }

    private static void refuseFault(int answer) {
        switch (answer) {
            case NO_INDEX:
                throw new IndexOutOfBoundsException("no such button");
            case WRONG_ARGUMENT:
                throw new IllegalArgumentException("an argument is not allowed");
            case WRONG_STATE:
                throw new IllegalStateException("not possible in this state");
            case NO_ELEMENT:
                throw new NoSuchElementException("no such bond or case");
            case UNSUPPORTED:
                throw new UnsupportedOperationException("a word or a precedent is missing");
            default:
                break;
        }
    }

    // The typed word.

    public int typeLetter(char letter) throws IllegalArgumentException, IllegalStateException {
        if (!isLetter(letter)) {
            throw new IllegalArgumentException("not a letter from a to z");
        }
        if (word.length() >= MOST_LETTERS) {
            throw new IllegalStateException("the word is full");
        }
        word.append(letter);
        return word.length();
    }

    public int clearWord() {
        int letters = word.length();
        word.setLength(0);
        return letters;
    }

    private static boolean isLetter(char sign) {
        return sign >= 'a' && sign <= 'z';
    }

    private static boolean isDigit(char sign) {
        return sign >= '0' && sign <= '9';
    }

    // Buttons, coins and bonds.

    public int day() {
        return now.today;
    }

    public int buttonCount() {
        return now.buttons;
    }

    public int balance(int button) throws IndexOutOfBoundsException {
        requireButton(button);
        return now.balanceOf(button);
    }

    public int chest() {
        return now.chest;
    }

    public int tension(int first, int second) throws IndexOutOfBoundsException, NoSuchElementException {
        requireButton(first);
        requireButton(second);
        int tension = now.tensionBetween(first, second);
        if (tension == 0) {
            throw new NoSuchElementException("no bond between them");
        }
        return tension;
    }

    public int strain(int first, int second) throws IndexOutOfBoundsException, IllegalArgumentException {
        requirePair(first, second);
        return court.threads.strainByJoining(now, first, second);
    }

    public int strainByTable(int first, int second) throws IndexOutOfBoundsException, IllegalArgumentException {
        requirePair(first, second);
        return court.threads.strainFromTable(now, first, second);
    }

    public int forestTension() {
        return court.threads.forestByJoining(now);
    }

    public int forestTensionByGrowth() {
        return court.threads.forestByTrees(now);
    }

    public int groups() {
        return court.threads.countGroups(now);
    }

    public int buttonByBalance(int rank) throws NoSuchElementException {
        for (int button = 0; button < now.buttons; button++) {
            if (now.buttonsBefore(button) == rank) {
                return button;
            }
        }
        throw new NoSuchElementException("no such rank");
    }

    private void requireButton(int button) {
        if (!now.hasButton(button)) {
            throw new IndexOutOfBoundsException("no such button");
        }
    }

    private void requirePair(int first, int second) {
        requireButton(first);
        requireButton(second);
        if (first == second) {
            throw new IllegalArgumentException("both buttons are the same");
        }
    }

    // Cases.

    public int caseCount() {
        return now.cases.size();
    }

    public int caseAt(int position) throws IndexOutOfBoundsException {
        if (position < 0 || position >= now.cases.size()) {
            throw new IndexOutOfBoundsException("no such position");
        }
        return now.cases.get(position).id;
    }

    public int plaintiff(int id) throws NoSuchElementException {
        return existingCase(id).plaintiff;
    }

    public int defendant(int id) throws NoSuchElementException {
        return existingCase(id).defendant;
    }

    public int claim(int id) throws NoSuchElementException {
        return existingCase(id).claim;
    }

    public int duration(int id) throws NoSuchElementException {
        return existingCase(id).duration;
    }

    public int deadline(int id) throws NoSuchElementException {
        return existingCase(id).deadline;
    }

    public char state(int id) throws NoSuchElementException {
        return existingCase(id).standing;
    }

    public int matterLength(int id) throws NoSuchElementException {
        return existingCase(id).matter.length();
    }

    public char matterLetter(int id, int position) throws NoSuchElementException, IndexOutOfBoundsException {
        String matter = existingCase(id).matter;
        if (position < 0 || position >= matter.length()) {
            throw new IndexOutOfBoundsException("no such position");
        }
        return matter.charAt(position);
    }

    public int percentage(int id) throws NoSuchElementException, IllegalStateException {
        return decidedCase(id).percentage;
    }

    public int award(int id) throws NoSuchElementException, IllegalStateException {
        return decidedCase(id).award;
    }

    public int cost(int id) throws NoSuchElementException, IllegalStateException {
        return decidedCase(id).cost;
    }

    public int caseByClaim(int rank) throws NoSuchElementException {
        for (int i = 0; i < now.cases.size(); i++) {
            Case one = now.cases.get(i);
            if (now.casesBefore(one) == rank) {
                return one.id;
            }
        }
        throw new NoSuchElementException("no such rank");
    }

    public double meanClaim() throws ArithmeticException {
        int count = now.cases.size();
        if (count == 0) {
            throw new ArithmeticException("no cases");
        }
        int sum = 0;
        for (int i = 0; i < count; i++) {
            sum += now.cases.get(i).claim;
        }
        return (double) sum / (double) count;
    }

    public float ruledShare() throws ArithmeticException {
        int count = now.cases.size();
        if (count == 0) {
            throw new ArithmeticException("no cases");
        }
        int ruled = 0;
        for (int i = 0; i < count; i++) {
            if (now.cases.get(i).standing == RULED) {
                ruled++;
            }
        }
        return (float) ruled / (float) count;
    }

    private Case existingCase(int id) {
        int position = now.positionOf(id);
        if (position < 0 || position >= now.cases.size()) {
            throw new NoSuchElementException("no such case");
        }
        return now.cases.get(position);
    }

    private Case decidedCase(int id) {
        Case one = existingCase(id);
        if (one.standing == FILED) {
            throw new IllegalStateException("the case is filed");
        }
        return one;
    }

    // Precedents and the distances to them.

    public int nearestPrecedent(int id) throws NoSuchElementException, UnsupportedOperationException {
        int nearest = court.nearestOf(now, existingCase(id).matter, NONE, NONE);
        if (nearest == NONE) {
            throw new UnsupportedOperationException("no precedents");
        }
        return nearest;
    }

    public int precedentCount() {
        return now.precedents.size();
    }

    public int precedentPercentage(int precedent) throws IndexOutOfBoundsException {
        return existingPrecedent(precedent).percentage;
    }

    public int distance(int id, int precedent) throws NoSuchElementException, IndexOutOfBoundsException {
        String matter = existingCase(id).matter;
        return court.ruler.byBeginnings(matter, existingPrecedent(precedent).matter);
    }

    public int distanceByEnds(int id, int precedent) throws NoSuchElementException, IndexOutOfBoundsException {
        String matter = existingCase(id).matter;
        return court.ruler.byEnds(matter, existingPrecedent(precedent).matter);
    }

    private Precedent existingPrecedent(int index) {
        if (index < 0 || index >= now.precedents.size()) {
            throw new IndexOutOfBoundsException("no such precedent");
        }
        return now.precedents.get(index);
    }

    // The docket, the transfers and the check of all second ways.

    public int bestDocket() {
        return docket.byDays(now);
    }

    public int bestDocketBySets() {
        return docket.bySets(now);
    }

    public int fewestTransfers() {
        return settlement.bySets(now);
    }

    public int fewestTransfersByTrial() {
        return settlement.byTrial(now);
    }

    public boolean isConsistent() {
        return now.sumOfCoins() == 0
                && strainsAgree()
                && court.threads.forestByJoining(now) == court.threads.forestByTrees(now)
                && distancesAgree()
                && docket.byDays(now) == docket.bySets(now)
                && settlement.bySets(now) == settlement.byTrial(now);
    }

    private boolean strainsAgree() {
        for (int first = 0; first < now.buttons; first++) {
            for (int second = first + 1; second < now.buttons; second++) {
                if (court.threads.strainByJoining(now, first, second)
                        != court.threads.strainFromTable(now, first, second)) {
                    return false;
                }
            }
        }
        return true;
    }

    private boolean distancesAgree() {
        for (int i = 0; i < now.cases.size(); i++) {
            String matter = now.cases.get(i).matter;
            for (int j = 0; j < now.precedents.size(); j++) {
                String other = now.precedents.get(j).matter;
                if (court.ruler.byBeginnings(matter, other) != court.ruler.byEnds(matter, other)) {
                    return false;
                }
            }
        }
        return true;
    }

    // The output text.

    public int renderCase(int id) throws NoSuchElementException {
        Case one = existingCase(id);
        output.setLength(0);
        output.append('#').append(one.id).append(one.standing);
        output.append(' ').append(one.plaintiff).append('>').append(one.defendant);
        output.append(' ').append(one.claim).append('x').append(one.duration);
        output.append('!').append(one.deadline).append(':').append(one.matter);
        if (one.standing != FILED) {
            output.append('=').append(one.award);
        }
        return output.length();
    }

    public int renderBonds(int button) throws IndexOutOfBoundsException {
        requireButton(button);
        output.setLength(0);
        output.append(button).append('(').append(now.balanceOf(button)).append(')');
        for (int other = 0; other < now.buttons; other++) {
            int tension = now.tensionBetween(button, other);
            if (tension > 0) {
                output.append('-').append(other).append('/').append(tension);
            }
        }
        return output.length();
    }

    public char outputAt(int index) throws IndexOutOfBoundsException {
        if (index < 0 || index >= output.length()) {
            throw new IndexOutOfBoundsException("no such index");
        }
        return output.charAt(index);
    }

    // Scripts.

    public int type(char character) throws IllegalArgumentException, IllegalStateException {
        if (character < ' ' || character > '~') {
            throw new IllegalArgumentException("not a character from 32 to 126");
        }
        if (script.length() >= MOST_SCRIPT_CHARACTERS) {
            throw new IllegalStateException("the script buffer is full");
        }
        script.append(character);
        return script.length();
    }

    public int runScript() throws IllegalArgumentException, IllegalStateException {
        ScriptReader reader = new ScriptReader(script.toString());
        script.setLength(0);
        if (!reader.readScript()) {
            latestErrorPosition = reader.position;
            throw new IllegalArgumentException("the script does not have the required form");
        }
        State next = now.copy();
        for (int i = 0; i < reader.orders.size(); i++) {
            if (court.perform(next, reader.orders.get(i)) < 0) {
                latestFailedCommand = i;
                throw new IllegalStateException("a command failed");
            }
        }
        return accept(next, reader.orders.size());
    }

    public int errorPosition() throws NoSuchElementException {
        if (latestErrorPosition == NONE) {
            throw new NoSuchElementException("no script was of another form");
        }
        return latestErrorPosition;
    }

    public int failedCommand() throws NoSuchElementException {
        if (latestFailedCommand == NONE) {
            throw new NoSuchElementException("no command failed");
        }
        return latestFailedCommand;
    }

    // Undo and the snapshot. A state that was replaced is never altered again, so that it can be kept as it is.

    public int undo() throws IllegalStateException {
        if (earlier.isEmpty()) {
            throw new IllegalStateException("nothing to undo");
        }
        now = earlier.remove(earlier.size() - 1);
        return earlier.size();
    }

    public int save() {
        snapshot = now;
        snapshotTaken = true;
        return now.cases.size();
    }

    public int restore() throws IllegalStateException {
        if (!snapshotTaken) {
            throw new IllegalStateException("no snapshot");
        }
        now = snapshot;
        earlier.clear();
        return now.cases.size();
    }

    /** A case. Once it stands in a state it is never altered, only replaced, because states share their cases. */
    private static final class Case {
        final int id;
        final int plaintiff;
        final int defendant;
        final int claim;
        final int duration;
        final int deadline;
        final String matter;
        char standing = FILED;
        int percentage = 0;
        int award = 0;
        int cost = 0;
        int decidedBy = NONE;
        int addedAs = NONE;
        boolean appealed = false;

        Case(int id, int plaintiff, int defendant, int claim, int duration, int deadline, String matter) {
            this.id = id;
            this.plaintiff = plaintiff;
            this.defendant = defendant;
            this.claim = claim;
            this.duration = duration;
            this.deadline = deadline;
            this.matter = matter;
        }

        Case copy() {
            Case copy = new Case(id, plaintiff, defendant, claim, duration, deadline, matter);
            copy.standing = standing;
            copy.percentage = percentage;
            copy.award = award;
            copy.cost = cost;
            copy.decidedBy = decidedBy;
            copy.addedAs = addedAs;
            copy.appealed = appealed;
            return copy;
        }

        void ruleAt(int newPercentage) {
            percentage = newPercentage;
            award = claim * newPercentage / 100;
        }

        boolean ranksBefore(Case other) {
            if (claim != other.claim) {
                return claim > other.claim;
            }
            if (deadline != other.deadline) {
                return deadline < other.deadline;
            }
            return id < other.id;
        }
    }

    /** A precedent; states share their precedents. */
    private static final class Precedent {
        final String matter;
        final int percentage;

        Precedent(String matter, int percentage) {
            this.matter = matter;
            this.percentage = percentage;
        }
    }

    /** All that undo and the snapshot cover. */
    private static final class State {
        final int[] balances = new int[MOST_BUTTONS];
        final int[] tensions = new int[MOST_BUTTONS * MOST_BUTTONS];
        final ArrayList<Case> cases = new ArrayList<>();
        final ArrayList<Precedent> precedents = new ArrayList<>();
        int buttons = 0;
        int chest = 0;
        int today = 0;
        int nextId = 0;

        State copy() {
            State copy = new State();
            System.arraycopy(balances, 0, copy.balances, 0, MOST_BUTTONS);
            System.arraycopy(tensions, 0, copy.tensions, 0, MOST_BUTTONS * MOST_BUTTONS);
            for (int i = 0; i < cases.size(); i++) {
                copy.cases.add(cases.get(i));
            }
            for (int i = 0; i < precedents.size(); i++) {
                copy.precedents.add(precedents.get(i));
            }
            copy.buttons = buttons;
            copy.chest = chest;
            copy.today = today;
            copy.nextId = nextId;
            return copy;
        }

        boolean hasButton(int button) {
            return button >= 0 && button < buttons;
        }

        int balanceOf(int button) {
            return button >= 0 && button < balances.length ? balances[button] : 0;
        }

        void addCoins(int button, int coins) {
            if (button >= 0 && button < balances.length) {
                balances[button] += coins;
            }
        }

        void payToChest(int button, int coins) {
            addCoins(button, -coins);
            chest += coins;
        }

        int sumOfCoins() {
            int sum = chest;
            for (int button = 0; button < balances.length; button++) {
                sum += balances[button];
            }
            return sum;
        }

        /** 0 if no bond joins them. */
        int tensionBetween(int first, int second) {
            int cell = first * MOST_BUTTONS + second;
            return cell >= 0 && cell < tensions.length ? tensions[cell] : 0;
        }

        void putTension(int first, int second, int tension) {
            putCell(first * MOST_BUTTONS + second, tension);
            putCell(second * MOST_BUTTONS + first, tension);
        }

        private void putCell(int cell, int tension) {
            if (cell >= 0 && cell < tensions.length) {
                tensions[cell] = tension;
            }
        }

        int bondsOf(int button) {
            int bonds = 0;
            for (int other = 0; other < buttons; other++) {
                if (tensionBetween(button, other) > 0) {
                    bonds++;
                }
            }
            return bonds;
        }

        int buttonsBefore(int button) {
            int before = 0;
            for (int other = 0; other < buttons; other++) {
                if (buttonRanksBefore(other, button)) {
                    before++;
                }
            }
            return before;
        }

        private boolean buttonRanksBefore(int one, int other) {
            if (balanceOf(one) != balanceOf(other)) {
                return balanceOf(one) > balanceOf(other);
            }
            if (bondsOf(one) != bondsOf(other)) {
                return bondsOf(one) > bondsOf(other);
            }
            return one < other;
        }

        int positionOf(int id) {
            for (int i = 0; i < cases.size(); i++) {
                if (cases.get(i).id == id) {
                    return i;
                }
            }
            return NONE;
        }

        int casesBefore(Case one) {
            int before = 0;
            for (int i = 0; i < cases.size(); i++) {
                if (cases.get(i).ranksBefore(one)) {
                    before++;
                }
            }
            return before;
        }
    }

    /**
     * What a command does, with the form that it has in a script: D is a digit, N a number and M a matter, and every
     * other character stands for itself.
     */
    private enum Verb {
        BUTTON("button"),
        BOND("bond D-D N"),
        CUT("cut D-D"),
        FILE("file D>D N D N:M"),
        RULE("rule N:M"),
        HEAR("hear N"),
        APPEAL("appeal N"),
        DROP("drop N"),
        CLOSE("close N"),
        GIVE("give D>D N"),
        WAIT("wait N");

        final String form;

        Verb(String form) {
            this.form = form;
        }
    }

    /** A command of a script with its arguments. */
    private static final class Order {
        final Verb verb;
        private final int[] numbers = new int[5];
        private int count = 0;
        private String matter = "";

        Order(Verb verb) {
            this.verb = verb;
        }

        void addNumber(int number) {
            if (count < numbers.length) {
                numbers[count] = number;
                count++;
            }
        }

        void setMatter(String letters) {
            matter = letters;
        }

        int number(int index) {
            return index >= 0 && index < numbers.length ? numbers[index] : 0;
        }
    }

    /** Does the changes. Each answers what the call of the face answers, or a fault and then leaves the state alone. */
    private static final class Court {
        private static final int FAIR_PERCENTAGE = 50;
        private static final int PERCENTAGE_PER_STEP = 5;
        private static final int COST_PER_DAY = 4;
        private static final int APPEAL_FEE = 3;
        private static final int MOST_CLAIM = 99;
        private static final int MOST_DEADLINE = 999;
        private static final int MOST_GIVEN = 999;
        private static final int MOST_DAYS = 99;

        final Threads threads = new Threads();
        final Ruler ruler = new Ruler();

        int perform(State state, Order order) {
            int first = order.number(0);
            int second = order.number(1);
            int third = order.number(2);
            switch (order.verb) {
                case BUTTON:
                    return enterButton(state);
                case BOND:
                    return joinButtons(state, first, second, third);
                case CUT:
                    return separateButtons(state, first, second);
                case FILE:
                    return enterCase(state, first, second, third, order.number(3), order.number(4), order.matter);
                case RULE:
                    return enterPrecedent(state, first, order.matter);
                case HEAR:
                    return hearCase(state, first);
                case APPEAL:
                    return appealCase(state, first);
                case DROP:
                    return withdrawCase(state, first);
                case CLOSE:
                    return closeCase(state, first);
                case GIVE:
                    return moveCoins(state, first, second, third);
                case WAIT:
                    return letDaysPass(state, first);
                default:
                    return UNSUPPORTED;
            }
        }

        private static boolean isBetween(int number, int least, int most) {
            return number >= least && number <= most;
        }

        int enterButton(State state) {
            if (state.buttons >= MOST_BUTTONS) {
                return WRONG_STATE;
            }
            state.buttons++;
            return state.buttons - 1;
        }

        int joinButtons(State state, int first, int second, int tension) {
            if (!state.hasButton(first) || !state.hasButton(second)) {
                return NO_INDEX;
            }
            if (first == second || !isBetween(tension, 1, MOST_TENSION)) {
                return WRONG_ARGUMENT;
            }
            int previous = state.tensionBetween(first, second);
            state.putTension(first, second, tension);
            return previous;
        }

        int separateButtons(State state, int first, int second) {
            if (!state.hasButton(first) || !state.hasButton(second)) {
                return NO_INDEX;
            }
            int tension = state.tensionBetween(first, second);
            if (tension == 0) {
                return NO_ELEMENT;
            }
            state.putTension(first, second, 0);
            return tension;
        }

        int enterPrecedent(State state, int percentage, String matter) {
            if (!isBetween(percentage, 0, 100)) {
                return WRONG_ARGUMENT;
            }
            if (state.precedents.size() >= MOST_PRECEDENTS) {
                return WRONG_STATE;
            }
            if (matter.isEmpty()) {
                return UNSUPPORTED;
            }
            state.precedents.add(new Precedent(matter, percentage));
            return state.precedents.size() - 1;
        }

        int enterCase(State state, int plaintiff, int defendant, int claim, int duration, int deadline,
                String matter) {
            if (!state.hasButton(plaintiff) || !state.hasButton(defendant)) {
                return NO_INDEX;
            }
            if (plaintiff == defendant || !isBetween(claim, 1, MOST_CLAIM)
                    || !isBetween(duration, 1, MOST_DURATION) || !isBetween(deadline, 0, MOST_DEADLINE)) {
                return WRONG_ARGUMENT;
            }
            if (state.cases.size() >= MOST_CASES) {
                return WRONG_STATE;
            }
            if (matter.isEmpty()) {
                return UNSUPPORTED;
            }
            int id = state.nextId;
            state.nextId++;
            state.cases.add(new Case(id, plaintiff, defendant, claim, duration, deadline, matter));
            return id;
        }

        int hearCase(State state, int id) {
            int position = state.positionOf(id);
            if (position < 0 || position >= state.cases.size()) {
                return NO_ELEMENT;
            }
            Case heard = state.cases.get(position).copy();
            if (heard.standing != FILED) {
                return WRONG_STATE;
            }
            boolean inTime = state.today + heard.duration <= heard.deadline;
            if (inTime && state.precedents.isEmpty()) {
                return UNSUPPORTED;
            }
            state.today += heard.duration;
            heard.cost = COST_PER_DAY * heard.duration
                    + threads.strainByJoining(state, heard.plaintiff, heard.defendant);
            heard.standing = inTime ? RULED : DISMISSED;
            if (inTime) {
                heard.decidedBy = nearestOf(state, heard.matter, NONE, NONE);
                heard.ruleAt(percentageBy(state, heard.decidedBy, heard.matter));
                addRuling(state, heard);
            }
            state.cases.set(position, heard);
            moveAward(state, heard, heard.award);
            shareCost(state, heard);
            return heard.award;
        }

        private static void addRuling(State state, Case heard) {
            if (state.precedents.size() < MOST_PRECEDENTS) {
                heard.addedAs = state.precedents.size();
                state.precedents.add(new Precedent(heard.matter, heard.percentage));
            }
        }

        int appealCase(State state, int id) {
            int position = state.positionOf(id);
            if (position < 0 || position >= state.cases.size()) {
                return NO_ELEMENT;
            }
            Case appealed = state.cases.get(position).copy();
            if (appealed.standing != RULED || appealed.appealed) {
                return WRONG_STATE;
            }
            int nearest = nearestOf(state, appealed.matter, appealed.decidedBy, appealed.addedAs);
            if (nearest == NONE) {
                return UNSUPPORTED;
            }
            int oldAward = appealed.award;
            appealed.appealed = true;
            appealed.ruleAt(percentageBy(state, nearest, appealed.matter));
            if (appealed.addedAs >= 0 && appealed.addedAs < state.precedents.size()) {
                state.precedents.set(appealed.addedAs, new Precedent(appealed.matter, appealed.percentage));
            }
            state.cases.set(position, appealed);
            moveAward(state, appealed, appealed.award - oldAward);
            state.payToChest(appealed.plaintiff, APPEAL_FEE);
            state.payToChest(appealed.defendant, APPEAL_FEE);
            return appealed.award;
        }

        /** The nearest precedent besides two; NONE if no other one exists. */
        int nearestOf(State state, String matter, int unseen, int alsoUnseen) {
            int nearest = NONE;
            int smallest = 0;
            for (int i = 0; i < state.precedents.size(); i++) {
                if (i != unseen && i != alsoUnseen) {
                    int distance = ruler.byBeginnings(matter, state.precedents.get(i).matter);
                    if (nearest == NONE || distance <= smallest) {
                        nearest = i;
                        smallest = distance;
                    }
                }
            }
            return nearest;
        }

        private int percentageBy(State state, int index, String matter) {
            if (index < 0 || index >= state.precedents.size()) {
                return FAIR_PERCENTAGE;
            }
            Precedent precedent = state.precedents.get(index);
            int shift = PERCENTAGE_PER_STEP * ruler.byBeginnings(matter, precedent.matter);
            if (precedent.percentage > FAIR_PERCENTAGE) {
                return Math.max(FAIR_PERCENTAGE, precedent.percentage - shift);
            }
            return Math.min(FAIR_PERCENTAGE, precedent.percentage + shift);
        }

        private static void moveAward(State state, Case one, int coins) {
            state.addCoins(one.plaintiff, coins);
            state.addCoins(one.defendant, -coins);
        }

        private static void shareCost(State state, Case one) {
            int share = one.cost * (100 - one.percentage) / 100;
            state.payToChest(one.plaintiff, share);
            state.payToChest(one.defendant, one.cost - share);
        }

        int withdrawCase(State state, int id) {
            int position = state.positionOf(id);
            if (position < 0 || position >= state.cases.size()) {
                return NO_ELEMENT;
            }
            Case one = state.cases.get(position);
            if (one.standing != FILED) {
                return WRONG_STATE;
            }
            state.cases.remove(position);
            return one.claim;
        }

        int closeCase(State state, int id) {
            int position = state.positionOf(id);
            if (position < 0 || position >= state.cases.size()) {
                return NO_ELEMENT;
            }
            Case one = state.cases.get(position);
            if (one.standing == FILED) {
                return WRONG_STATE;
            }
            state.cases.remove(position);
            return one.award;
        }

        int moveCoins(State state, int from, int to, int coins) {
            if (!state.hasButton(from) || !state.hasButton(to)) {
                return NO_INDEX;
            }
            if (from == to || !isBetween(coins, 1, MOST_GIVEN)) {
                return WRONG_ARGUMENT;
            }
            if (state.balanceOf(from) < coins) {
                return WRONG_STATE;
            }
            state.addCoins(from, -coins);
            state.addCoins(to, coins);
            return state.balanceOf(from);
        }

        int letDaysPass(State state, int days) {
            if (!isBetween(days, 1, MOST_DAYS)) {
                return WRONG_ARGUMENT;
            }
            state.today += days;
            return state.today;
        }
    }

    /** Finds strains and the lightest forest. A button that does not exist has no bonds and so does no harm. */
    private static final class Threads {
        private final int[] groups = new int[MOST_BUTTONS];
        private final int[] strains = new int[MOST_BUTTONS * MOST_BUTTONS];
        private final boolean[] inTree = new boolean[MOST_BUTTONS];

        int strainByJoining(State state, int first, int second) {
            if (!state.hasButton(first) || !state.hasButton(second)) {
                return UNJOINED_STRAIN;
            }
            separateAll();
            for (int tension = 1; tension <= MOST_TENSION; tension++) {
                joinBonds(state, tension);
                if (groupOf(first) == groupOf(second)) {
                    return tension;
                }
            }
            return UNJOINED_STRAIN;
        }

        int forestByJoining(State state) {
            separateAll();
            int sum = 0;
            for (int tension = 1; tension <= MOST_TENSION; tension++) {
                sum += tension * joinBonds(state, tension);
            }
            return sum;
        }

        int countGroups(State state) {
            separateAll();
            int count = state.buttons;
            for (int tension = 1; tension <= MOST_TENSION; tension++) {
                count -= joinBonds(state, tension);
            }
            return count;
        }

        private void separateAll() {
            for (int button = 0; button < groups.length; button++) {
                groups[button] = button;
            }
        }

        private int groupOf(int button) {
            return button >= 0 && button < groups.length ? groups[button] : NONE;
        }

        /** Answers how many bonds of this tension joined two groups. */
        private int joinBonds(State state, int tension) {
            int joined = 0;
            for (int first = 0; first < state.buttons; first++) {
                for (int second = first + 1; second < state.buttons; second++) {
                    if (state.tensionBetween(first, second) == tension && groupOf(first) != groupOf(second)) {
                        joinGroups(groupOf(first), groupOf(second));
                        joined++;
                    }
                }
            }
            return joined;
        }

        private void joinGroups(int kept, int left) {
            for (int button = 0; button < groups.length; button++) {
                if (groups[button] == left) {
                    groups[button] = kept;
                }
            }
        }

        int strainFromTable(State state, int first, int second) {
            for (int cell = 0; cell < strains.length; cell++) {
                int tension = state.tensionBetween(cell / MOST_BUTTONS, cell % MOST_BUTTONS);
                strains[cell] = tension > 0 ? tension : UNJOINED_STRAIN;
            }
            for (int middle = 0; middle < state.buttons; middle++) {
                for (int cell = 0; cell < strains.length; cell++) {
                    int detour = Math.max(strainAt(cell / MOST_BUTTONS, middle),
                            strainAt(middle, cell % MOST_BUTTONS));
                    strains[cell] = Math.min(strains[cell], detour);
                }
            }
            return strainAt(first, second);
        }

        private int strainAt(int first, int second) {
            int cell = first * MOST_BUTTONS + second;
            return cell >= 0 && cell < strains.length ? strains[cell] : UNJOINED_STRAIN;
        }

        int forestByTrees(State state) {
            for (int button = 0; button < inTree.length; button++) {
                inTree[button] = false;
            }
            int sum = 0;
            for (int root = 0; root < inTree.length; root++) {
                if (!inTree[root]) {
                    inTree[root] = true;
                    sum += growTree(state);
                }
            }
            return sum;
        }

        // Trees that are grown out have no bond to a button outside, so all trees can be looked at as one.
        private int growTree(State state) {
            int sum = 0;
            for (int step = 1; step < inTree.length; step++) {
                int tension = growByOne(state);
                if (tension == 0) {
                    return sum;
                }
                sum += tension;
            }
            return sum;
        }

        /** Adds the button that the lightest bond joins to a tree; answers the tension, 0 if there is no such bond. */
        private int growByOne(State state) {
            int nearest = NONE;
            int lightest = 0;
            for (int inside = 0; inside < inTree.length; inside++) {
                for (int outside = 0; outside < inTree.length; outside++) {
                    int tension = state.tensionBetween(inside, outside);
                    if (inTree[inside] && !inTree[outside] && tension > 0
                            && (nearest == NONE || tension < lightest)) {
                        nearest = outside;
                        lightest = tension;
                    }
                }
            }
            if (nearest >= 0 && nearest < inTree.length) {
                inTree[nearest] = true;
            }
            return lightest;
        }
    }

    /** Measures the distance of two words. */
    private static final class Ruler {
        private static final int WIDTH = MOST_LETTERS + 1;

        private final char[] firstLetters = new char[MOST_LETTERS];
        private final char[] secondLetters = new char[MOST_LETTERS];
        private final int[] table = new int[WIDTH * WIDTH];

        int byBeginnings(String first, String second) {
            int firstLength = putLetters(first, firstLetters);
            int secondLength = putLetters(second, secondLetters);
            for (int i = 0; i <= firstLength; i++) {
                for (int j = 0; j <= secondLength; j++) {
                    putCell(i, j, beginningsDistance(i, j));
                }
            }
            return cellAt(firstLength, secondLength);
        }

        private int beginningsDistance(int i, int j) {
            if (i == 0 || j == 0) {
                return i + j;
            }
            int distance = Math.min(cellAt(i - 1, j), cellAt(i, j - 1)) + 1;
            distance = Math.min(distance, cellAt(i - 1, j - 1) + (sameLetter(i, j) ? 0 : 1));
            if (i >= 2 && j >= 2 && sameLetter(i, j - 1) && sameLetter(i - 1, j)) {
                distance = Math.min(distance, cellAt(i - 2, j - 2) + 1);
            }
            return distance;
        }

        int byEnds(String first, String second) {
            int firstLength = putLetters(first, firstLetters);
            int secondLength = putLetters(second, secondLetters);
            for (int cell = 0; cell < table.length; cell++) {
                table[cell] = NONE;
            }
            return endsDistance(this, firstLength, secondLength);
        }

        // The table only spares the recursion from going through the same two beginnings again. Both lengths are at
        // most 8 and one gets smaller at each level, so that there are at most 16 levels.
        private static int endsDistance(Ruler ruler, int i, int j) {
            if (i <= 0 || j <= 0 || i >= WIDTH || j >= WIDTH) {
                return i + j;
            }
            int known = ruler.cellAt(i, j);
            if (known != NONE) {
                return known;
            }
            int distance = Math.min(endsDistance(ruler, i - 1, j), endsDistance(ruler, i, j - 1)) + 1;
            int change = ruler.sameLetter(i, j) ? 0 : 1;
            distance = Math.min(distance, endsDistance(ruler, i - 1, j - 1) + change);
            if (i >= 2 && j >= 2 && ruler.sameLetter(i, j - 1) && ruler.sameLetter(i - 1, j)) {
                distance = Math.min(distance, endsDistance(ruler, i - 2, j - 2) + 1);
            }
            ruler.putCell(i, j, distance);
            return distance;
        }

        /** Answers how many letters were put into the row. */
        private static int putLetters(String word, char[] row) {
            int length = Math.min(word.length(), row.length);
            for (int i = 0; i < length; i++) {
                row[i] = word.charAt(i);
            }
            return length;
        }

        /** Tells if the first i letters of the one word and the first j of the other one end with the same letter. */
        private boolean sameLetter(int i, int j) {
            return i >= 1 && i <= firstLetters.length && j >= 1 && j <= secondLetters.length
                    && firstLetters[i - 1] == secondLetters[j - 1];
        }

        private int cellAt(int i, int j) {
            int cell = i * WIDTH + j;
            return cell >= 0 && cell < table.length ? table[cell] : 0;
        }

        private void putCell(int i, int j, int distance) {
            int cell = i * WIDTH + j;
            if (cell >= 0 && cell < table.length) {
                table[cell] = distance;
            }
        }
    }

    /** Finds the best docket. A set can be heard in time if it can be in the order of deadlines. */
    private static final class Docket {
        private final ArrayList<Case> filed = new ArrayList<>();
        private final int[] bestAfter = new int[MOST_CASES * MOST_DURATION + 1];

        int byDays(State state) {
            collectFiled(state);
            for (int days = 0; days < bestAfter.length; days++) {
                bestAfter[days] = days == 0 ? 0 : NONE;
            }
            for (int i = 0; i < filed.size(); i++) {
                addToTable(filed.get(i), state.today);
            }
            int best = 0;
            for (int days = 0; days < bestAfter.length; days++) {
                best = Math.max(best, bestAfter[days]);
            }
            return best;
        }

        // Downwards, so that the case is not taken twice.
        private void addToTable(Case one, int today) {
            for (int days = bestAfter.length - 1; days >= one.duration; days--) {
                int before = days - one.duration;
                if (before >= 0 && before < days && bestAfter[before] != NONE && today + days <= one.deadline) {
                    bestAfter[days] = Math.max(bestAfter[days], bestAfter[before] + one.claim);
                }
            }
        }

        int bySets(State state) {
            collectFiled(state);
            int best = 0;
            for (int set = 0; set < 1 << filed.size(); set++) {
                best = Math.max(best, claimsInTime(set, state.today));
            }
            return best;
        }

        /** The sum of the claims of a set, 0 if it cannot be heard in time. */
        private int claimsInTime(int set, int today) {
            int claims = 0;
            int then = today;
            for (int i = 0; i < filed.size(); i++) {
                if ((set >> i & 1) == 1) {
                    Case one = filed.get(i);
                    then += one.duration;
                    if (then > one.deadline) {
                        return 0;
                    }
                    claims += one.claim;
                }
            }
            return claims;
        }

        private void collectFiled(State state) {
            filed.clear();
            for (int i = 0; i < state.cases.size(); i++) {
                Case one = state.cases.get(i);
                if (one.standing == FILED && filed.size() < MOST_CASES) {
                    filed.add(placeOf(one), one);
                }
            }
        }

        private int placeOf(Case one) {
            int place = 0;
            while (place < filed.size() && filed.get(place).deadline <= one.deadline) {
                place++;
            }
            return place;
        }
    }

    /** Finds the fewest transfers between the buttons and the chest, each of which is an account here. */
    private static final class Settlement {
        private final int[] accounts = new int[MOST_BUTTONS + 1];
        private final int[] mostParts = new int[1 << (MOST_BUTTONS + 1)];
        private int count = 0;

        // A part whose coins add up to 0 needs one transfer less than it has accounts.
        int bySets(State state) {
            collectAccounts(state);
            int parts = 0;
            for (int set = 1; set < 1 << count && set < mostParts.length; set++) {
                parts = partsOf(set);
                mostParts[set] = parts;
            }
            return count - parts;
        }

        /** The most parts that add up to 0 among those that one gets by adding the accounts of the set one by one. */
        private int partsOf(int set) {
            int parts = 0;
            int sum = 0;
            for (int i = 0; i < accounts.length; i++) {
                int rest = set & ~(1 << i);
                if (rest != set && rest >= 0 && rest < mostParts.length) {
                    sum += accounts[i];
                    parts = Math.max(parts, mostParts[rest]);
                }
            }
            return sum == 0 ? parts + 1 : parts;
        }

        int byTrial(State state) {
            collectAccounts(state);
            return tryTransfers(accounts, count, 0, 0, count);
        }

        // One account after the other passes all that it has to one of the opposite sign. Each level goes on to a
        // later account, of which there are at most 9.
        private static int tryTransfers(int[] coins, int count, int from, int made, int fewest) {
            int giver = from;
            while (giver < count && giver >= 0 && giver < coins.length && coins[giver] == 0) {
                giver++;
            }
            if (giver < 0 || giver >= count || giver >= coins.length) {
                return Math.min(made, fewest);
            }
            if (made + 1 >= fewest) {
                return fewest;
            }
            int given = coins[giver];
            int best = fewest;
            for (int taker = giver + 1; taker < count && taker < coins.length; taker++) {
                if (given > 0 && coins[taker] < 0 || given < 0 && coins[taker] > 0) {
                    coins[taker] += given;
                    best = tryTransfers(coins, count, giver + 1, made + 1, best);
                    coins[taker] -= given;
                }
            }
            return best;
        }

        private void collectAccounts(State state) {
            count = 0;
            addAccount(state.chest);
            for (int button = 0; button < state.buttons; button++) {
                addAccount(state.balanceOf(button));
            }
        }

        private void addAccount(int coins) {
            if (coins != 0 && count < accounts.length) {
                accounts[count] = coins;
                count++;
            }
        }
    }

    /** Reads a script into orders. Where it does not have the form, position is its error position then. */
    private static final class ScriptReader {
        private static final Verb[] VERBS = Verb.values();
        private static final int MOST_DIGITS = 3;

        final ArrayList<Order> orders = new ArrayList<>();
        int position = 0;
        private final String text;

        ScriptReader(String text) {
            this.text = text;
        }

        boolean readScript() {
            for (int commands = 0; commands <= text.length(); commands++) {
                if (!readCommand()) {
                    return false;
                }
                if (position == text.length()) {
                    return true;
                }
                if (!readSign(';')) {
                    return false;
                }
            }
            return false;
        }

        // The verb whose form goes furthest tells which character cannot continue any script.
        private boolean readCommand() {
            int start = position;
            int furthest = start;
            for (int i = 0; i < VERBS.length; i++) {
                position = start;
                Order order = new Order(VERBS[i]);
                if (readForm(order)) {
                    orders.add(order);
                    return true;
                }
                furthest = Math.max(furthest, position);
            }
            position = furthest;
            return false;
        }

        private boolean readForm(Order order) {
            String form = order.verb.form;
            for (int i = 0; i < form.length(); i++) {
                if (!readPart(order, form.charAt(i))) {
                    return false;
                }
            }
            return true;
        }

        private boolean readPart(Order order, char part) {
            switch (part) {
                case 'D':
                    return readNumber(order, 1);
                case 'N':
                    return readNumber(order, MOST_DIGITS);
                case 'M':
                    return readMatter(order);
                default:
                    return readSign(part);
            }
        }

        private boolean readSign(char sign) {
            if (position < 0 || position >= text.length() || text.charAt(position) != sign) {
                return false;
            }
            position++;
            return true;
        }

        private boolean readNumber(Order order, int mostDigits) {
            int start = position;
            int end = Math.min(text.length(), start + mostDigits);
            int number = 0;
            while (position >= 0 && position < end && isDigit(text.charAt(position))) {
                number = number * 10 + (text.charAt(position) - '0');
                position++;
            }
            order.addNumber(number);
            return position > start;
        }

        private boolean readMatter(Order order) {
            int start = position;
            int end = Math.min(text.length(), start + MOST_LETTERS);
            while (position >= 0 && position < end && isLetter(text.charAt(position))) {
                position++;
            }
            if (start < 0 || position <= start) {
                return false;
            }
            order.setMatter(text.substring(start, position));
            return true;
        }
    }
}
