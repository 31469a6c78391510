import java.util.ArrayDeque;
import java.util.ArrayList;
import java.util.Collections;
import java.util.Comparator;
import java.util.Deque;
import java.util.HashMap;
import java.util.List;
import java.util.Map;
import java.util.NoSuchElementException;
import java.util.TreeMap;
import java.util.regex.Matcher;
import java.util.regex.Pattern;

/** The document once more, written in another way, so that random calls can be compared with it. */
public final class Model {
    private static final String COMMAND = "(?:button|bond \\d-\\d \\d{1,3}|cut \\d-\\d"
            + "|file \\d>\\d \\d{1,3} \\d \\d{1,3}:[a-z]{1,8}|rule \\d{1,3}:[a-z]{1,8}"
            + "|(?:hear|appeal|drop|close) \\d{1,3}|give \\d>\\d \\d{1,3}|wait \\d{1,3})";
    private static final Pattern SCRIPT = Pattern.compile(COMMAND + "(?:;" + COMMAND + ")*");

    private static final class Suit {
        int id;
        int plaintiff;
        int defendant;
        int claim;
        int duration;
        int deadline;
        String matter;
        char state = 'f';
        int percentage;
        int award;
        int cost;
        int decider = -1;
        int own = -1;
        boolean appealed;

        Suit copy() {
            Suit copy = new Suit();
            copy.id = id;
            copy.plaintiff = plaintiff;
            copy.defendant = defendant;
            copy.claim = claim;
            copy.duration = duration;
            copy.deadline = deadline;
            copy.matter = matter;
            copy.state = state;
            copy.percentage = percentage;
            copy.award = award;
            copy.cost = cost;
            copy.decider = decider;
            copy.own = own;
            copy.appealed = appealed;
            return copy;
        }
    }

    private static final class World {
        int day;
        int chest;
        int nextId;
        List<Integer> balances = new ArrayList<>();
        Map<String, Integer> bonds = new HashMap<>();
        List<String> matters = new ArrayList<>();
        List<Integer> percentages = new ArrayList<>();
        TreeMap<Integer, Suit> cases = new TreeMap<>();

        World copy() {
            World copy = new World();
            copy.day = day;
            copy.chest = chest;
            copy.nextId = nextId;
            copy.balances.addAll(balances);
            copy.bonds.putAll(bonds);
            copy.matters.addAll(matters);
            copy.percentages.addAll(percentages);
            for (Suit one : cases.values()) {
                copy.cases.put(one.id, one.copy());
            }
            return copy;
        }
    }

    private World world = new World();
    private World saved = null;
    private final Deque<World> past = new ArrayDeque<>();
    private String word = "";
    private String script = "";
    private String output = "";
    private Integer error = null;
    private Integer failed = null;

    private static String key(int first, int second) {
        return Math.min(first, second) + "-" + Math.max(first, second);
    }

    private void done(World before) {
        past.push(before);
        if (past.size() > 8) {
            past.removeLast();
        }
    }

    private void button(int... buttons) {
        for (int button : buttons) {
            if (button < 0 || button >= world.balances.size()) {
                throw new IndexOutOfBoundsException();
            }
        }
    }

    private static void argument(boolean right) {
        if (!right) {
            throw new IllegalArgumentException();
        }
    }

    private static void possible(boolean right) {
        if (!right) {
            throw new IllegalStateException();
        }
    }

    private static void supported(boolean right) {
        if (!right) {
            throw new UnsupportedOperationException();
        }
    }

    private static void exists(boolean right) {
        if (!right) {
            throw new NoSuchElementException();
        }
    }

    private void pay(int button, int coins) {
        world.balances.set(button, world.balances.get(button) + coins);
    }

    private Suit suit(int id) {
        exists(world.cases.containsKey(id));
        return world.cases.get(id);
    }

    public int addButton() {
        possible(world.balances.size() < 8);
        done(world.copy());
        world.balances.add(0);
        return world.balances.size() - 1;
    }

    public int setBond(int first, int second, int tension) {
        button(first, second);
        argument(first != second && tension >= 1 && tension <= 20);
        done(world.copy());
        Integer before = world.bonds.put(key(first, second), tension);
        return before == null ? 0 : before;
    }

    public int cutBond(int first, int second) {
        button(first, second);
        exists(world.bonds.containsKey(key(first, second)));
        done(world.copy());
        return world.bonds.remove(key(first, second));
    }

    public int typeLetter(char letter) {
        argument(letter >= 97 && letter <= 122);
        possible(word.length() < 8);
        word += letter;
        return word.length();
    }

    public int clearWord() {
        int length = word.length();
        word = "";
        return length;
    }

    public int addPrecedent(int percentage) {
        int index = precedent(percentage, word);
        word = "";
        return index;
    }

    private int precedent(int percentage, String matter) {
        argument(percentage >= 0 && percentage <= 100);
        possible(world.matters.size() < 20);
        supported(!matter.equals(""));
        done(world.copy());
        world.matters.add(matter);
        world.percentages.add(percentage);
        return world.matters.size() - 1;
    }

    public int fileCase(int plaintiff, int defendant, int claim, int duration, int deadline) {
        int id = file(plaintiff, defendant, claim, duration, deadline, word);
        word = "";
        return id;
    }

    private int file(int plaintiff, int defendant, int claim, int duration, int deadline, String matter) {
        button(plaintiff, defendant);
        argument(plaintiff != defendant);
        argument(claim >= 1 && claim <= 99);
        argument(duration >= 1 && duration <= 5);
        argument(deadline >= 0 && deadline <= 999);
        possible(world.cases.size() < 12);
        supported(!matter.equals(""));
        done(world.copy());
        Suit suit = new Suit();
        suit.id = world.nextId++;
        suit.plaintiff = plaintiff;
        suit.defendant = defendant;
        suit.claim = claim;
        suit.duration = duration;
        suit.deadline = deadline;
        suit.matter = matter;
        world.cases.put(suit.id, suit);
        return suit.id;
    }

    public int hear(int id) {
        possible(suit(id).state == 'f');
        boolean late = world.day + suit(id).duration > suit(id).deadline;
        supported(late || !world.matters.isEmpty());
        done(world.copy());
        Suit suit = suit(id);
        world.day += suit.duration;
        suit.cost = 4 * suit.duration + strain(suit.plaintiff, suit.defendant);
        if (late) {
            suit.state = 'd';
        } else {
            suit.state = 'r';
            suit.decider = nearest(suit.matter, List.of());
            suit.percentage = ruling(suit.matter, suit.decider);
            if (world.matters.size() < 20) {
                suit.own = world.matters.size();
                world.matters.add(suit.matter);
                world.percentages.add(suit.percentage);
            }
        }
        suit.award = (int) Math.floor(suit.claim * suit.percentage / 100.0 + 1e-9);
        pay(suit.plaintiff, suit.award);
        pay(suit.defendant, -suit.award);
        int share = (int) Math.floor(suit.cost * (100 - suit.percentage) / 100.0 + 1e-9);
        pay(suit.plaintiff, -share);
        pay(suit.defendant, share - suit.cost);
        world.chest += suit.cost;
        return suit.award;
    }

    private int ruling(String matter, int decider) {
        int percentage = world.percentages.get(decider);
        for (int step = edit(matter, world.matters.get(decider)) * 5; step > 0; step--) {
            percentage += Integer.compare(50, percentage);
        }
        return percentage;
    }

    private int nearest(String matter, List<Integer> skipped) {
        int best = -1;
        for (int i = world.matters.size() - 1; i >= 0; i--) {
            boolean better = best < 0 || edit(matter, world.matters.get(i)) < edit(matter, world.matters.get(best));
            if (!skipped.contains(i) && better) {
                best = i;
            }
        }
        return best;
    }

    public int appeal(int id) {
        possible(suit(id).state == 'r' && !suit(id).appealed);
        int decider = nearest(suit(id).matter, List.of(suit(id).decider, suit(id).own));
        supported(decider >= 0);
        done(world.copy());
        Suit suit = suit(id);
        suit.appealed = true;
        pay(suit.plaintiff, -suit.award - 3);
        pay(suit.defendant, suit.award - 3);
        world.chest += 6;
        suit.percentage = ruling(suit.matter, decider);
        suit.award = (int) Math.floor(suit.claim * suit.percentage / 100.0 + 1e-9);
        pay(suit.plaintiff, suit.award);
        pay(suit.defendant, -suit.award);
        if (suit.own >= 0) {
            world.percentages.set(suit.own, suit.percentage);
        }
        return suit.award;
    }

    public int withdraw(int id) {
        possible(suit(id).state == 'f');
        done(world.copy());
        return world.cases.remove(id).claim;
    }

    public int close(int id) {
        possible(suit(id).state != 'f');
        done(world.copy());
        return world.cases.remove(id).award;
    }

    public int give(int from, int to, int coins) {
        button(from, to);
        argument(from != to && coins >= 1 && coins <= 999);
        possible(world.balances.get(from) >= coins);
        done(world.copy());
        pay(from, -coins);
        pay(to, coins);
        return world.balances.get(from);
    }

    public int passDays(int days) {
        argument(days >= 1 && days <= 99);
        done(world.copy());
        return world.day += days;
    }

    public int day() {
        return world.day;
    }

    public int buttonCount() {
        return world.balances.size();
    }

    public int balance(int button) {
        button(button);
        return world.balances.get(button);
    }

    public int chest() {
        return world.chest;
    }

    public int tension(int first, int second) {
        button(first, second);
        exists(world.bonds.containsKey(key(first, second)));
        return world.bonds.get(key(first, second));
    }

    public int strain(int first, int second) {
        button(first, second);
        argument(first != second);
        for (int most = 1; most <= 20; most++) {
            if (reached(first, most, new ArrayList<>()).contains(second)) {
                return most;
            }
        }
        return 25;
    }

    private List<Integer> reached(int from, int most, List<Integer> known) {
        known.add(from);
        for (int next = 0; next < world.balances.size(); next++) {
            if (!known.contains(next) && world.bonds.getOrDefault(key(from, next), 99) <= most) {
                reached(next, most, known);
            }
        }
        return known;
    }

    public int strainByTable(int first, int second) {
        return strain(first, second);
    }

    /** Each tension counts as often as there are groups that only bonds of at least this tension join. */
    public int forestTension() {
        int sum = 0;
        for (int tension = 0; tension < 20; tension++) {
            sum += groups(tension) - groups(20);
        }
        return sum;
    }

    public int forestTensionByGrowth() {
        return forestTension();
    }

    public int groups() {
        return groups(20);
    }

    private int groups(int most) {
        int groups = 0;
        for (int button = 0; button < world.balances.size(); button++) {
            if (Collections.min(reached(button, most, new ArrayList<>())) == button) {
                groups++;
            }
        }
        return groups;
    }

    public int caseCount() {
        return world.cases.size();
    }

    public int caseAt(int position) {
        if (position < 0 || position >= world.cases.size()) {
            throw new IndexOutOfBoundsException();
        }
        return new ArrayList<>(world.cases.keySet()).get(position);
    }

    public int plaintiff(int id) {
        return suit(id).plaintiff;
    }

    public int defendant(int id) {
        return suit(id).defendant;
    }

    public int claim(int id) {
        return suit(id).claim;
    }

    public int duration(int id) {
        return suit(id).duration;
    }

    public int deadline(int id) {
        return suit(id).deadline;
    }

    public char state(int id) {
        return suit(id).state;
    }

    public int matterLength(int id) {
        return suit(id).matter.length();
    }

    public char matterLetter(int id, int position) {
        String matter = suit(id).matter;
        if (position < 0 || position >= matter.length()) {
            throw new IndexOutOfBoundsException();
        }
        return matter.charAt(position);
    }

    public int percentage(int id) {
        possible(suit(id).state != 'f');
        return suit(id).percentage;
    }

    public int award(int id) {
        possible(suit(id).state != 'f');
        return suit(id).award;
    }

    public int cost(int id) {
        possible(suit(id).state != 'f');
        return suit(id).cost;
    }

    public int nearestPrecedent(int id) {
        String matter = suit(id).matter;
        supported(!world.matters.isEmpty());
        return nearest(matter, List.of());
    }

    public int precedentCount() {
        return world.matters.size();
    }

    public int precedentPercentage(int precedent) {
        if (precedent < 0 || precedent >= world.matters.size()) {
            throw new IndexOutOfBoundsException();
        }
        return world.percentages.get(precedent);
    }

    public int distance(int id, int precedent) {
        String matter = suit(id).matter;
        precedentPercentage(precedent);
        return edit(matter, world.matters.get(precedent));
    }

    public int distanceByEnds(int id, int precedent) {
        return distance(id, precedent);
    }

    private static final Map<String, Integer> EDITS = new HashMap<>();

    /** From the fronts of the words. */
    private static int edit(String one, String other) {
        if (one.isEmpty() || other.isEmpty()) {
            return one.length() + other.length();
        }
        Integer known = EDITS.get(one + " " + other);
        if (known != null) {
            return known;
        }
        int best = edit(one.substring(1), other.substring(1)) + (one.charAt(0) == other.charAt(0) ? 0 : 1);
        best = Math.min(best, edit(one.substring(1), other) + 1);
        best = Math.min(best, edit(one, other.substring(1)) + 1);
        if (one.length() > 1 && other.length() > 1 && one.charAt(0) == other.charAt(1)
                && one.charAt(1) == other.charAt(0)) {
            best = Math.min(best, edit(one.substring(2), other.substring(2)) + 1);
        }
        EDITS.put(one + " " + other, best);
        return best;
    }

    /** By the order of hearings: which one comes first, and what the rest then brings. */
    public int bestDocket() {
        List<Suit> filed = new ArrayList<>();
        for (Suit one : world.cases.values()) {
            if (one.state == 'f') {
                filed.add(one);
            }
        }
        return bestOf(filed, 0, world.day, new HashMap<>());
    }

    private static int bestOf(List<Suit> filed, int taken, int day, Map<Integer, Integer> known) {
        if (known.containsKey(taken)) {
            return known.get(taken);
        }
        int best = 0;
        for (int i = 0; i < filed.size(); i++) {
            Suit one = filed.get(i);
            if ((taken & 1 << i) == 0 && day + one.duration <= one.deadline) {
                best = Math.max(best, one.claim + bestOf(filed, taken | 1 << i, day + one.duration, known));
            }
        }
        known.put(taken, best);
        return best;
    }

    public int bestDocketBySets() {
        return bestDocket();
    }

    public int fewestTransfers() {
        List<Integer> coins = new ArrayList<>(world.balances);
        coins.add(world.chest);
        coins.removeIf(one -> one == 0);
        return coins.size() - mostParts(coins, 0, 0, new ArrayList<>());
    }

    /** Puts account after account into an open part or a new one; counts the parts if all of them add up to 0. */
    private static int mostParts(List<Integer> coins, int at, int open, List<Integer> parts) {
        if (at == coins.size()) {
            for (int sum : parts) {
                if (sum != 0) {
                    return -1;
                }
            }
            return parts.size();
        }
        int best = -1;
        for (int i = 0; i < parts.size(); i++) {
            parts.set(i, parts.get(i) + coins.get(at));
            best = Math.max(best, mostParts(coins, at + 1, open, parts));
            parts.set(i, parts.get(i) - coins.get(at));
        }
        parts.add(coins.get(at));
        best = Math.max(best, mostParts(coins, at + 1, open, parts));
        parts.remove(parts.size() - 1);
        return best;
    }

    public int fewestTransfersByTrial() {
        return fewestTransfers();
    }

    public int caseByClaim(int rank) {
        List<Suit> all = new ArrayList<>(world.cases.values());
        exists(rank >= 0 && rank < all.size());
        all.sort(Comparator.comparing((Suit one) -> -one.claim).thenComparing(one -> one.deadline)
                .thenComparing(one -> one.id));
        return all.get(rank).id;
    }

    public int buttonByBalance(int rank) {
        List<Integer> all = new ArrayList<>();
        for (int i = 0; i < world.balances.size(); i++) {
            all.add(i);
        }
        exists(rank >= 0 && rank < all.size());
        all.sort(Comparator.comparing((Integer one) -> -world.balances.get(one)).thenComparing(one -> -bonds(one))
                .thenComparing(one -> one));
        return all.get(rank);
    }

    private int bonds(int button) {
        int count = 0;
        for (String key : world.bonds.keySet()) {
            if (key.contains("" + button)) {
                count++;
            }
        }
        return count;
    }

    public double meanClaim() {
        if (world.cases.isEmpty()) {
            throw new ArithmeticException();
        }
        return (double) world.cases.values().stream().mapToInt(one -> one.claim).sum() / (double) world.cases.size();
    }

    public float ruledShare() {
        if (world.cases.isEmpty()) {
            throw new ArithmeticException();
        }
        long ruled = world.cases.values().stream().filter(one -> one.state == 'r').count();
        return (float) ruled / (float) world.cases.size();
    }

    public boolean isConsistent() {
        return true;
    }

    public int renderCase(int id) {
        Suit one = suit(id);
        output = "#" + id + one.state + " " + one.plaintiff + ">" + one.defendant + " " + one.claim + "x"
                + one.duration + "!" + one.deadline + ":" + one.matter + (one.state == 'f' ? "" : "=" + one.award);
        return output.length();
    }

    public int renderBonds(int button) {
        button(button);
        output = button + "(" + world.balances.get(button) + ")";
        for (int other = 0; other < 8; other++) {
            if (other != button && world.bonds.containsKey(key(button, other))) {
                output += "-" + other + "/" + world.bonds.get(key(button, other));
            }
        }
        return output.length();
    }

    public char outputAt(int index) {
        if (index < 0 || index >= output.length()) {
            throw new IndexOutOfBoundsException();
        }
        return output.charAt(index);
    }

    public int type(char character) {
        argument(character >= 32 && character <= 126);
        possible(script.length() < 60);
        script += character;
        return script.length();
    }

    public int runScript() {
        String text = script;
        script = "";
        if (!SCRIPT.matcher(text).matches()) {
            error = errorOf(text);
            throw new IllegalArgumentException();
        }
        World before = world.copy();
        List<World> pastBefore = new ArrayList<>(past);
        String[] commands = text.split(";");
        int ran = 0;
        try {
            for (; ran < commands.length; ran++) {
                execute(commands[ran]);
            }
        } catch (RuntimeException fault) {
            world = before;
            failed = ran;
        }
        past.clear();
        past.addAll(pastBefore);
        possible(ran == commands.length);
        done(before);
        return ran;
    }

    private static int errorOf(String text) {
        for (int length = 1; length <= text.length(); length++) {
            Matcher matcher = SCRIPT.matcher(text.substring(0, length));
            if (!matcher.matches() && !matcher.hitEnd()) {
                return length - 1;
            }
        }
        return text.length();
    }

    private void execute(String command) {
        String verb = command.split(" ")[0];
        String[] parts = command.replace(verb, "").trim().split("[^0-9a-z]");
        int[] numbers = new int[6];
        String matter = "";
        for (int i = 0; i < parts.length; i++) {
            if (parts[i].matches("[0-9]+")) {
                numbers[i] = Integer.parseInt(parts[i]);
            } else {
                matter = parts[i];
            }
        }
        switch (verb) {
            case "button" -> addButton();
            case "bond" -> setBond(numbers[0], numbers[1], numbers[2]);
            case "cut" -> cutBond(numbers[0], numbers[1]);
            case "file" -> file(numbers[0], numbers[1], numbers[2], numbers[3], numbers[4], matter);
            case "rule" -> precedent(numbers[0], matter);
            case "hear" -> hear(numbers[0]);
            case "appeal" -> appeal(numbers[0]);
            case "drop" -> withdraw(numbers[0]);
            case "close" -> close(numbers[0]);
            case "give" -> give(numbers[0], numbers[1], numbers[2]);
            case "wait" -> passDays(numbers[0]);
            default -> throw new AssertionError(command);
        }
    }

    public int errorPosition() {
        exists(error != null);
        return error;
    }

    public int failedCommand() {
        exists(failed != null);
        return failed;
    }

    public int undo() {
        possible(!past.isEmpty());
        world = past.pop();
        return past.size();
    }

    public int save() {
        saved = world.copy();
        return world.cases.size();
    }

    public int restore() {
        possible(saved != null);
        world = saved.copy();
        past.clear();
        return world.cases.size();
    }
}
