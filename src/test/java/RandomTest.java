import java.lang.reflect.InvocationTargetException;
import java.lang.reflect.Method;
import java.util.ArrayList;
import java.util.List;
import java.util.Random;

/** All promises: random runs of 512 calls, each answer compared with that of the model. The seeds are fixed. */
public final class RandomTest {
    private static final int CALLS = 512;
    private static final int LAST_CALLS = 66;
    private static final String[] WORDS = {"a", "b", "ab", "ba", "seam", "seat", "mase", "same", "abcdefgh", "hgfedcba",
        "badcfehg", "zzzzzzzz", "aab", "aba", "abab", "baba"};
    private static final String[] CHANGES = {"addButton", "setBond", "setBond", "cutBond", "addPrecedent", "fileCase",
        "fileCase", "fileCase", "fileCase", "fileCase", "hear", "hear", "hear", "hear", "appeal", "appeal", "withdraw",
        "close", "give", "give", "passDays", "undo", "save", "restore", "runScript", "clearWord"};

    private final Random random;
    private final ButtonRegistry registry = new ButtonRegistry();
    private final Model model = new Model();
    private final List<String> calls = new ArrayList<>();
    private int latestButton = 0;
    private boolean right = true;

    private RandomTest(long seed) {
        random = new Random(seed);
    }

    public static void main(String[] args) {
        int runs = args.length > 0 ? Integer.parseInt(args[0]) : 600;
        for (int seed = 0; seed < runs; seed++) {
            RandomTest test = new RandomTest(seed);
            test.run(seed % 4);
            if (!test.right) {
                System.out.println("seed " + seed + ": " + String.join("; ", test.calls));
                System.exit(1);
            }
        }
    }

    private void run(int style) {
        int first = style == 0 ? 0 : random.nextInt(9);
        for (int i = 0; i < first; i++) {
            call("addButton");
        }
        for (int i = random.nextInt(16); style >= 2 && i > 0; i--) {
            typeWord();
            call("addPrecedent", random.nextInt(101));
        }
        while (calls.size() < CALLS - LAST_CALLS && right) {
            if (random.nextInt(10) < 4) {
                look();
            } else if (style == 1 && random.nextInt(4) == 0) {
                script();
            } else {
                change(CHANGES[random.nextInt(CHANGES.length)]);
            }
        }
        compareAll();
    }

    private void change(String name) {
        int day = registry.day();
        switch (name) {
            case "setBond" -> call(name, button(), otherButton(), number(20));
            case "cutBond" -> call(name, button(), otherButton());
            case "addPrecedent" -> {
                typeWord();
                call(name, number(100));
            }
            case "fileCase" -> {
                typeWord();
                int deadline = random.nextInt(12) == 0 ? number(999) : Math.min(999, day + random.nextInt(30));
                int duration = 1 + number(4);
                call(name, button(), otherButton(), number(99), duration, deadline);
            }
            case "hear", "appeal", "withdraw", "close" -> call(name, id());
            case "give" -> giveSome();
            case "passDays" -> call(name, random.nextInt(4) == 0 ? number(99) : 1);
            case "restore" -> {
                if (random.nextInt(4) == 0) {
                    call(name);
                }
            }
            case "runScript" -> script();
            default -> call(name);
        }
    }

    private void giveSome() {
        int from = button();
        int coins = number(99);
        if (registry.buttonCount() > 0 && random.nextInt(4) > 0) {
            from = registry.buttonByBalance(0);
            coins = Math.max(1, registry.balance(from) + 1 - random.nextInt(3));
        }
        call("give", from, button(), coins);
    }

    private void look() {
        String[] plain = {"day", "buttonCount", "chest", "forestTension", "forestTensionByGrowth", "groups", "caseCount",
            "precedentCount", "bestDocket", "bestDocketBySets", "fewestTransfers", "fewestTransfersByTrial", "meanClaim",
            "ruledShare", "isConsistent", "errorPosition", "failedCommand"};
        String[] ofCase = {"plaintiff", "defendant", "claim", "duration", "deadline", "state", "matterLength",
            "percentage", "award", "cost", "nearestPrecedent", "renderCase"};
        String[] ofPair = {"tension", "strain", "strainByTable"};
        switch (random.nextInt(8)) {
            case 0, 1 -> call(plain[random.nextInt(plain.length)]);
            case 2, 3 -> call(ofCase[random.nextInt(ofCase.length)], id());
            case 4 -> call(ofPair[random.nextInt(3)], button(), button());
            case 5 -> call(random.nextBoolean() ? "distance" : "distanceByEnds", id(), number(19));
            case 6 -> {
                String[] ranks = {"caseAt", "caseByClaim", "buttonByBalance", "balance", "renderBonds",
                    "precedentPercentage"};
                call(ranks[random.nextInt(ranks.length)], number(8));
            }
            default -> {
                if (random.nextBoolean()) {
                    call("matterLetter", id(), number(7));
                } else {
                    call("outputAt", number(25));
                }
            }
        }
    }

    private void typeWord() {
        if (random.nextInt(30) == 0) {
            return;
        }
        String word = WORDS[random.nextInt(WORDS.length)];
        if (random.nextInt(3) == 0) {
            word = word.substring(random.nextInt(word.length()));
        }
        for (int i = 0; i < word.length(); i++) {
            call("typeLetter", random.nextInt(200) == 0 ? (char) random.nextInt(300) : word.charAt(i));
        }
    }

    private void script() {
        StringBuilder script = new StringBuilder();
        for (int i = random.nextInt(4); i >= 0; i--) {
            script.append(script.length() > 0 ? ";" : "").append(command());
        }
        if (random.nextInt(3) == 0 && script.length() > 0) {
            int at = random.nextInt(script.length());
            String signs = "abehz0159 :;->";
            switch (random.nextInt(4)) {
                case 0 -> script.setCharAt(at, signs.charAt(random.nextInt(signs.length())));
                case 1 -> script.insert(at, signs.charAt(random.nextInt(signs.length())));
                case 2 -> script.deleteCharAt(at);
                default -> script.setLength(at);
            }
        }
        for (int i = 0; i < script.length(); i++) {
            call("type", random.nextInt(900) == 0 ? (char) random.nextInt(300) : script.charAt(i));
        }
        call("runScript");
    }

    private String command() {
        int one = Math.floorMod(button(), 10);
        int other = Math.floorMod(button(), 10);
        String word = WORDS[random.nextInt(WORDS.length)];
        return switch (random.nextInt(11)) {
            case 0 -> "button";
            case 1 -> "bond " + one + "-" + other + " " + Math.max(0, number(20));
            case 2 -> "cut " + one + "-" + other;
            case 3 -> "file " + one + ">" + other + " " + (1 + random.nextInt(99)) + " " + (1 + random.nextInt(5)) + " "
                    + Math.min(999, registry.day() + random.nextInt(30)) + ":" + word;
            case 4 -> "rule " + random.nextInt(102) + ":" + word;
            case 5 -> "hear " + Math.floorMod(id(), 1000);
            case 6 -> "appeal " + Math.floorMod(id(), 1000);
            case 7 -> "drop " + Math.floorMod(id(), 1000);
            case 8 -> "close " + Math.floorMod(id(), 1000);
            case 9 -> "give " + one + ">" + other + " " + (1 + random.nextInt(40));
            default -> "wait " + (random.nextInt(20) == 0 ? random.nextInt(1000) : 1);
        };
    }

    private int button() {
        int buttons = registry.buttonCount();
        latestButton = random.nextInt(40) == 0 || buttons == 0 ? strange(buttons) : random.nextInt(buttons);
        return latestButton;
    }

    /** More often another one than the same one again. */
    private int otherButton() {
        int first = latestButton;
        int button = button();
        return button == first ? button() : button;
    }

    private int id() {
        int cases = registry.caseCount();
        return random.nextInt(12) == 0 || cases == 0 ? strange(cases) : registry.caseAt(random.nextInt(cases));
    }

    private int number(int most) {
        return random.nextInt(40) == 0 ? strange(most + 1) : random.nextInt(most + 1);
    }

    private int strange(int near) {
        int[] strange = {-1, near, near + 1, 0, Integer.MIN_VALUE, Integer.MAX_VALUE, 1 << 29, 1 << 28, -8};
        return strange[random.nextInt(strange.length)];
    }

    private void compareAll() {
        for (int i = 0; i < 12; i++) {
            call("caseAt", i);
            call("caseByClaim", i);
        }
        for (int i = 0; i < 8; i++) {
            call("balance", i);
            call("buttonByBalance", i);
        }
        for (int i = 0; i < 20; i++) {
            call("precedentPercentage", i);
        }
        call("isConsistent");
    }

    private void call(String name, Object... arguments) {
        if (!right) {
            return;
        }
        Object got = answer(registry, name, arguments);
        Object due = answer(model, name, arguments);
        StringBuilder text = new StringBuilder(name).append('(');
        for (Object argument : arguments) {
            text.append(argument).append(',');
        }
        calls.add(text.append(")=").append(got).toString());
        if (!got.equals(due)) {
            System.out.println(text + ", due is " + due);
            right = false;
        }
    }

    private Object answer(Object object, String name, Object... arguments) {
        Class<?>[] types = new Class<?>[arguments.length];
        for (int i = 0; i < types.length; i++) {
            types[i] = arguments[i] instanceof Character ? char.class : int.class;
        }
        try {
            Method method = object.getClass().getMethod(name, types);
            return method.invoke(object, arguments);
        } catch (InvocationTargetException fault) {
            return object == model ? fault.getCause().getClass() : Check.thrown(fault.getCause());
        } catch (ReflectiveOperationException fault) {
            throw new AssertionError(fault);
        }
    }
}
