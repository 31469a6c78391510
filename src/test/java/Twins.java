/**
 * Compares what can be seen of two registries that were made alike, one of which has had a call more. It is looked at
 * in parts, each with registries of its own: many parts change what they look at, and none goes beyond 512 calls.
 */
final class Twins {
    /** Makes a registry, the same one each time. */
    interface Maker {
        ButtonRegistry make();
    }

    /** A call of a registry. */
    interface Step {
        Object on(ButtonRegistry registry);
    }

    private static final Step[] PARTS = {Twins::buttons, Twins::cases, Twins::precedents, Twins::appeals, Twins::word,
        Twins::scriptLength, Twins::script, Twins::latest, Twins::undone, Twins::restored};

    private Twins() {
    }

    /** The call throws, and nothing at all is another than without it. */
    static void refuses(String what, Maker maker, Class<? extends RuntimeException> due, Step call) {
        for (int part = 0; part < PARTS.length; part++) {
            ButtonRegistry tried = maker.make();
            Check.fails(what, due, () -> call.on(tried));
            Check.same(what + " changes nothing", PARTS[part].on(maker.make()), PARTS[part].on(tried));
        }
    }

    /** After the one step all is as it is after the other one. */
    static void same(String what, Maker maker, Step one, Step other) {
        for (int part = 0; part < PARTS.length; part++) {
            ButtonRegistry first = maker.make();
            one.on(first);
            ButtonRegistry second = maker.make();
            other.on(second);
            Check.same(what, PARTS[part].on(second), PARTS[part].on(first));
        }
    }

    private static String buttons(ButtonRegistry registry) {
        StringBuilder text = new StringBuilder();
        text.append("day ").append(registry.day()).append(" chest ").append(registry.chest());
        text.append(" groups ").append(registry.groups()).append(" forest ").append(registry.forestTension());
        for (int one = 0; one < registry.buttonCount(); one++) {
            text.append(" b").append(one).append('=').append(registry.balance(one));
            for (int other = 0; other < one; other++) {
                int first = one;
                int second = other;
                text.append(',').append(answer(() -> registry.tension(first, second)));
            }
        }
        return text.toString();
    }

    private static String cases(ButtonRegistry registry) {
        StringBuilder text = new StringBuilder();
        text.append(registry.caseCount()).append(" cases");
        for (int i = 0; i < registry.caseCount(); i++) {
            int id = registry.caseAt(i);
            text.append(" #").append(id).append(registry.state(id)).append(registry.plaintiff(id));
            text.append('>').append(registry.defendant(id)).append(' ').append(registry.claim(id));
            text.append('x').append(registry.duration(id)).append('!').append(registry.deadline(id));
            text.append(':').append(Look.matter(registry, id));
            text.append('=').append(answer(() -> registry.percentage(id)));
            text.append('/').append(answer(() -> registry.award(id)));
            text.append('/').append(answer(() -> registry.cost(id)));
        }
        return text.toString();
    }

    /** The matters of precedents show in their distances to the first case. */
    private static String precedents(ButtonRegistry registry) {
        StringBuilder text = new StringBuilder();
        text.append(registry.precedentCount()).append(" precedents");
        for (int i = 0; i < registry.precedentCount(); i++) {
            text.append(' ').append(registry.precedentPercentage(i));
            if (registry.caseCount() > 0) {
                text.append('~').append(registry.distance(registry.caseAt(0), i));
            }
        }
        for (int i = 0; i < registry.caseCount(); i++) {
            int id = registry.caseAt(i);
            text.append(" #").append(id).append('~').append(answer(() -> registry.nearestPrecedent(id)));
        }
        return text.toString();
    }

    /** Shows which cases have been appealed, and which precedents are not looked at. */
    private static String appeals(ButtonRegistry registry) {
        StringBuilder text = new StringBuilder();
        for (int i = 0; i < registry.caseCount(); i++) {
            int id = registry.caseAt(i);
            text.append(" #").append(id).append(' ').append(answer(() -> registry.appeal(id)));
            text.append('=').append(answer(() -> registry.percentage(id)));
        }
        return text.append(' ').append(precedents(registry)).toString();
    }

    /** The letters of the word show in a case, and so does the id of the next case. */
    private static String word(ButtonRegistry registry) {
        for (int i = registry.buttonCount(); i < 2; i++) {
            registry.addButton();
        }
        if (registry.caseCount() == 12) {
            removeFirstCase(registry);
        }
        StringBuilder text = new StringBuilder("word ");
        for (int i = 0; i < 2; i++) {
            Object id = answer(() -> registry.fileCase(0, 1, 1, 1, 0));
            text.append(' ').append(id);
            if (id instanceof Integer) {
                return text.append(Look.matter(registry, (Integer) id)).toString();
            }
            registry.typeLetter('q');
        }
        return text.toString();
    }

    private static void removeFirstCase(ButtonRegistry registry) {
        int first = registry.caseAt(0);
        if (registry.state(first) == 'f') {
            registry.withdraw(first);
        } else {
            registry.close(first);
        }
    }

    private static String scriptLength(ButtonRegistry registry) {
        return "type " + answer(() -> registry.type('~')) + " run " + answer(registry::runScript) + " error "
                + answer(registry::errorPosition);
    }

    private static String script(ButtonRegistry registry) {
        return "run " + answer(registry::runScript) + latest(registry) + buttons(registry);
    }

    private static String latest(ButtonRegistry registry) {
        return " error " + answer(registry::errorPosition) + " failed " + answer(registry::failedCommand) + " output "
                + Look.output(registry);
    }

    private static String undone(ButtonRegistry registry) {
        StringBuilder text = new StringBuilder();
        for (int i = 0; i < 9; i++) {
            text.append(" undo ").append(answer(registry::undo)).append(" day ").append(registry.day());
            text.append(" chest ").append(registry.chest()).append(" groups ").append(registry.groups());
            text.append(" forest ").append(registry.forestTension());
            text.append(" buttons ").append(registry.buttonCount());
            text.append(" cases ").append(registry.caseCount());
            text.append(" precedents ").append(registry.precedentCount());
        }
        return text.append(' ').append(buttons(registry)).toString();
    }

    private static String restored(ButtonRegistry registry) {
        return "restore " + answer(registry::restore) + " undo " + answer(registry::undo) + ' ' + buttons(registry)
                + ' ' + cases(registry);
    }

    static Object answer(Check.Call call) {
        try {
            return call.run();
        } catch (RuntimeException fault) {
            return fault.getClass().getSimpleName();
        }
    }
}
