/** Tells all that can be seen of a registry without changing it. */
final class Look {
    private Look() {
    }

    static String at(ButtonRegistry registry) {
        return state(registry) + " error " + answer(registry::errorPosition) + " failed "
                + answer(registry::failedCommand);
    }

    /** All but the error position and the failed command. */
    static String state(ButtonRegistry registry) {
        StringBuilder text = new StringBuilder();
        text.append("day ").append(registry.day()).append(" chest ").append(registry.chest());
        buttons(registry, text);
        cases(registry, text);
        for (int i = 0; i < registry.precedentCount(); i++) {
            text.append(" p").append(registry.precedentPercentage(i));
        }
        text.append(" forest ").append(registry.forestTension()).append('/').append(registry.forestTensionByGrowth());
        text.append(" groups ").append(registry.groups());
        text.append(" docket ").append(registry.bestDocket()).append('/').append(registry.bestDocketBySets());
        text.append(" transfers ").append(registry.fewestTransfers()).append('/');
        text.append(registry.fewestTransfersByTrial());
        text.append(" consistent ").append(registry.isConsistent());
        text.append(" output ").append(output(registry));
        return text.toString();
    }

    static String output(ButtonRegistry registry) {
        StringBuilder text = new StringBuilder();
        for (int i = 0; i < 1000; i++) {
            try {
                text.append(registry.outputAt(i));
            } catch (IndexOutOfBoundsException end) {
                break;
            }
        }
        return text.toString();
    }

    static String matter(ButtonRegistry registry, int id) {
        StringBuilder text = new StringBuilder();
        for (int i = 0; i < registry.matterLength(id); i++) {
            text.append(registry.matterLetter(id, i));
        }
        return text.toString();
    }

    private static void buttons(ButtonRegistry registry, StringBuilder text) {
        for (int one = 0; one < registry.buttonCount(); one++) {
            text.append(" b").append(one).append('=').append(registry.balance(one));
            text.append('@').append(registry.buttonByBalance(one));
            for (int other = 0; other < registry.buttonCount(); other++) {
                int first = one;
                int second = other;
                text.append(',').append(answer(() -> registry.tension(first, second)));
                text.append('/').append(answer(() -> registry.strain(first, second)));
                text.append('/').append(answer(() -> registry.strainByTable(first, second)));
            }
        }
    }

    private static void cases(ButtonRegistry registry, StringBuilder text) {
        for (int i = 0; i < registry.caseCount(); i++) {
            int id = registry.caseAt(i);
            text.append(" c").append(id).append(registry.state(id)).append(registry.plaintiff(id));
            text.append('>').append(registry.defendant(id)).append(' ').append(registry.claim(id));
            text.append('x').append(registry.duration(id)).append('!').append(registry.deadline(id));
            text.append(':').append(matter(registry, id));
            text.append('=').append(answer(() -> registry.percentage(id)));
            text.append('/').append(answer(() -> registry.award(id)));
            text.append('/').append(answer(() -> registry.cost(id)));
            text.append('~').append(answer(() -> registry.nearestPrecedent(id)));
            text.append('@').append(registry.caseByClaim(i));
            for (int precedent = 0; precedent < registry.precedentCount(); precedent++) {
                text.append(',').append(registry.distance(id, precedent));
                text.append('/').append(registry.distanceByEnds(id, precedent));
            }
        }
    }

    private static Object answer(Check.Call call) {
        try {
            return call.run();
        } catch (RuntimeException fault) {
            return fault.getClass().getSimpleName();
        }
    }
}
