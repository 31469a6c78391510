/** "Changes" and "Exceptions" of the document and promises 59 to 61: a test for each sentence with a boundary. */
public final class UndoEdgesTest {
    private static final Class<IllegalStateException> STATE = IllegalStateException.class;

    private UndoEdgesTest() {
    }

    public static void main(String[] args) {
        nothingToUndo();
        everyChangeIsOne();
        changesThatLeaveTheStateSame();
        otherCallsAreNone();
        refusedCallsAreNone();
        undoneInOrder();
        latestEight();
        undoAndChangeInTurn();
        scriptIsOneOfEight();
        undoCoversNextId();
        undoLeavesTheRest();
        undoLeavesTheSnapshot();
        noSnapshot();
        saveCountsCases();
        saveReplaces();
        restoreKeepsTheSnapshot();
        restoreLeavesTheRest();
        nothingToUndoAfterRestore();
        restoreCoversNextId();
        appealsAreCovered();
        Check.finish();
    }

    /** Make.inUse() where nothing can be undone, and nothing waits in the script buffer. */
    private static ButtonRegistry settled() {
        ButtonRegistry registry = Make.inUse();
        registry.runScript();
        registry.save();
        registry.restore();
        return registry;
    }

    /** Promise 59: throws if there is nothing to undo. */
    private static void nothingToUndo() {
        Twins.refuses("undo", ButtonRegistry::new, STATE, ButtonRegistry::undo);
        Twins.refuses("undo after restore", UndoEdgesTest::settled, STATE, ButtonRegistry::undo);
        Twins.refuses("undo after undo", UndoEdgesTest::undone, STATE, ButtonRegistry::undo);
    }

    private static ButtonRegistry undone() {
        ButtonRegistry registry = Make.inUse();
        for (int left = 7; left >= 0; left--) {
            Check.same("undo", left, registry.undo());
        }
        return registry;
    }

    /** "A change is a call of addButton, ... or runScript that returns normally": each counts once, and is undone. */
    private static void everyChangeIsOne() {
        Twins.Step[] changes = {ButtonRegistry::addButton, it -> it.setBond(0, 2, 5), it -> it.setBond(0, 1, 8),
            it -> it.cutBond(0, 1), it -> it.addPrecedent(50), it -> it.fileCase(0, 1, 2, 3, 4), it -> it.hear(3),
            it -> it.appeal(1), it -> it.withdraw(3), it -> it.close(0), it -> it.close(2), it -> it.give(0, 1, 10),
            it -> it.passDays(99), it -> Make.run(it, "wait 1"), it -> Make.run(it, "wait 1;hear 3;button;close 1")};
        for (int i = 0; i < changes.length; i++) {
            Twins.Step change = changes[i];
            ButtonRegistry registry = settled();
            change.on(registry);
            Check.same("change " + i + " is the only one", 0, registry.undo());
            Check.fails("no other one", STATE, registry::undo);
            Twins.same("nothing remains of change " + i, UndoEdgesTest::settled, it -> {
                change.on(it);
                it.undo();
                return it.clearWord();
            }, ButtonRegistry::clearWord);
        }
    }

    /** "Even if the state is the same afterwards." */
    private static void changesThatLeaveTheStateSame() {
        Twins.Step[] changes = {it -> it.setBond(0, 1, 7), it -> it.setBond(1, 0, 7),
            it -> Make.run(it, "bond 0-1 7"), it -> Make.run(it, "bond 0-2 3;cut 0-2"),
            it -> Make.run(it, "cut 0-1;bond 0-1 7")};
        for (int i = 0; i < changes.length; i++) {
            ButtonRegistry registry = settled();
            String before = Look.state(registry);
            changes[i].on(registry);
            Check.same("call " + i + " leaves the state the same", before, Look.state(registry));
            registry.addButton();
            Check.same("call " + i + " can be undone", 1, registry.undo());
            Check.same("call " + i + " is undone", 0, registry.undo());
            Check.same("and the state is the same", before, Look.state(registry));
        }
    }

    /** Only the calls that are named are changes. */
    private static void otherCallsAreNone() {
        Twins.Step[] others = {it -> it.typeLetter('q'), ButtonRegistry::clearWord, it -> it.type('q'),
            ButtonRegistry::save, it -> it.renderCase(0), it -> it.renderBonds(0), ButtonRegistry::isConsistent,
            ButtonRegistry::bestDocket, ButtonRegistry::fewestTransfers, it -> it.strain(0, 1), it -> it.distance(0, 0),
            it -> it.nearestPrecedent(0), ButtonRegistry::errorPosition, ButtonRegistry::failedCommand};
        for (int i = 0; i < others.length; i++) {
            ButtonRegistry registry = settled();
            others[i].on(registry);
            Check.fails("call " + i + " is no change", STATE, registry::undo);
            ButtonRegistry full = Make.inUse();
            others[i].on(full);
            Check.same("call " + i + " takes no place of a change", 7, full.undo());
        }
    }

    /** "That returns normally": a refused call is no change, and takes no place of one. */
    private static void refusedCallsAreNone() {
        Twins.Step[] refused = {it -> it.setBond(0, 0, 5), it -> it.cutBond(0, 2), it -> it.addPrecedent(101),
            it -> it.fileCase(0, 0, 1, 1, 1), it -> it.hear(0), it -> it.appeal(0), it -> it.withdraw(0),
            it -> it.close(3), it -> it.give(0, 1, 11), it -> it.passDays(0)};
        for (int i = 0; i < refused.length; i++) {
            ButtonRegistry registry = Make.inUse();
            Twins.Step call = refused[i];
            String name = Twins.answer(() -> call.on(registry)).toString();
            Check.same("call " + i + " is refused", true, name.endsWith("Exception"));
            Check.same("call " + i + " is no change", 7, registry.undo());
            ButtonRegistry settled = settled();
            Twins.answer(() -> call.on(settled));
            Check.fails("call " + i + " cannot be undone", STATE, settled::undo);
        }
        String[] scripts = {"wait 1;wait 0", "wait 1;wait", ""};
        for (String script : scripts) {
            ButtonRegistry registry = settled();
            Make.refusedRun(registry, script);
            Check.fails("no change: " + script, STATE, registry::undo);
        }
    }

    /** "The latest one first." */
    private static void undoneInOrder() {
        ButtonRegistry registry = new ButtonRegistry();
        registry.addButton();
        registry.passDays(5);
        registry.addButton();
        registry.setBond(0, 1, 9);
        Check.same("the bond", 3, registry.undo());
        Check.same("two groups", 2, registry.groups());
        Check.same("the second button", 2, registry.undo());
        Check.same("one button", 1, registry.buttonCount());
        Check.same("the days", 1, registry.undo());
        Check.same("day", 0, registry.day());
        Check.same("the first button", 0, registry.undo());
        Check.same("no button", 0, registry.buttonCount());
    }

    /** "The latest 8 changes can be undone": 7, 8 and 9 changes. */
    private static void latestEight() {
        for (int changes = 0; changes <= 20; changes++) {
            ButtonRegistry registry = new ButtonRegistry();
            for (int i = 0; i < changes; i++) {
                registry.passDays(1);
            }
            int undoable = Math.min(8, changes);
            for (int left = undoable - 1; left >= 0; left--) {
                Check.same("undo of " + changes, left, registry.undo());
            }
            Check.same("day", changes - undoable, registry.day());
            Check.fails("no more than 8 of " + changes, STATE, registry::undo);
            Check.same("day", changes - undoable, registry.day());
        }
    }

    /** "Undoes the latest change that has not been undone." */
    private static void undoAndChangeInTurn() {
        ButtonRegistry registry = new ButtonRegistry();
        for (int day = 1; day <= 16; day *= 2) {
            registry.passDays(day);
        }
        Check.same("the 16", 4, registry.undo());
        Check.same("the 8", 3, registry.undo());
        Check.same("day", 7, registry.day());
        registry.passDays(32);
        Check.same("the 32", 3, registry.undo());
        Check.same("day", 7, registry.day());
        Check.same("the 4", 2, registry.undo());
        Check.same("the 2", 1, registry.undo());
        Check.same("the 1", 0, registry.undo());
        Check.same("day", 0, registry.day());
    }

    /** A script is one of the 8 changes, however many commands it has. */
    private static void scriptIsOneOfEight() {
        ButtonRegistry registry = new ButtonRegistry();
        for (int i = 0; i < 9; i++) {
            Make.run(registry, "wait 1;wait 1;wait 1;wait 1;wait 1;wait 1;wait 1;wait 1");
        }
        for (int left = 7; left >= 0; left--) {
            Check.same("undo", left, registry.undo());
            Check.same("day", 8 * (left + 1), registry.day());
        }
        Check.fails("no more", STATE, registry::undo);
    }

    /** "They cover the id of the next case." */
    private static void undoCoversNextId() {
        ButtonRegistry registry = Make.withButtons(2);
        Check.same("the first id", 0, Make.file(registry, "a", 0, 1, 1, 1, 1));
        registry.undo();
        Check.same("the first id again", 0, Make.file(registry, "b", 0, 1, 1, 1, 1));
        registry.withdraw(0);
        registry.undo();
        Check.same("it exists again", 0, registry.caseAt(0));
        Check.same("the second id", 1, Make.file(registry, "c", 0, 1, 1, 1, 1));
        Check.same("two cases", 2, Make.run(registry, "file 0>1 1 1 1:a;file 0>1 1 1 1:b"));
        registry.undo();
        Check.same("the third id", 2, Make.file(registry, "d", 0, 1, 1, 1, 1));
    }

    /** What undo does not cover: word, buffer, error position, failed command and output text. */
    private static void undoLeavesTheRest() {
        ButtonRegistry registry = settled();
        registry.fileCase(0, 1, 1, 1, 1);
        registry.undo();
        Check.same("undo does not bring back the word", 0, registry.clearWord());
        Make.word(registry, "abc");
        registry.addPrecedent(50);
        Make.word(registry, "abcd");
        Make.script(registry, "wait 7");
        registry.undo();
        Check.same("the word of now", 4, registry.clearWord());
        int day = registry.day();
        Check.same("the buffer of now", 1, registry.runScript());
        Check.same("day", day + 7, registry.day());
        registry.renderCase(0);
        Make.refusedRun(registry, "wait 0");
        Make.refusedRun(registry, "w");
        registry.undo();
        Check.same("the output text of now", "#0r 0>1 50x1!9:seat=15", Look.output(registry));
        Check.same("the failed command of now", 0, registry.failedCommand());
        Check.same("the error position of now", 1, registry.errorPosition());
        Check.same("day", day, registry.day());
    }

    /** "And the snapshot itself." */
    private static void undoLeavesTheSnapshot() {
        ButtonRegistry registry = new ButtonRegistry();
        registry.passDays(3);
        registry.save();
        registry.undo();
        Check.same("day", 0, registry.day());
        registry.restore();
        Check.same("the snapshot has the change that was undone", 3, registry.day());
        ButtonRegistry other = new ButtonRegistry();
        other.save();
        other.passDays(3);
        other.undo();
        Check.same("the snapshot is there after undo", 0, other.restore());
        ButtonRegistry late = new ButtonRegistry();
        late.passDays(3);
        late.undo();
        Check.fails("undo makes none", STATE, late::restore);
    }

    /** Promise 61: throws if there is no snapshot. */
    private static void noSnapshot() {
        Twins.refuses("restore", ButtonRegistry::new, STATE, ButtonRegistry::restore);
        Twins.refuses("restore", () -> Make.full("xy"), STATE, ButtonRegistry::restore);
        ButtonRegistry registry = Make.withButtons(3);
        Check.fails("restore", STATE, registry::restore);
        Check.same("the changes can still be undone", 2, registry.undo());
    }

    /** Promise 60 returns the number of cases, 61 the number after the call: from 0 to 12. */
    private static void saveCountsCases() {
        ButtonRegistry registry = Make.withButtons(2);
        for (int count = 0; count <= 12; count++) {
            Check.same("save", count, registry.save());
            if (count > 0) {
                registry.withdraw(registry.caseAt(0));
            }
            Check.same("restore", count, registry.restore());
            Check.same("caseCount", count, registry.caseCount());
            if (count < 12) {
                Make.file(registry, "a", 0, 1, 1, 1, 1);
            }
        }
    }

    /** Promise 60: "Takes a snapshot, which replaces an earlier one." */
    private static void saveReplaces() {
        ButtonRegistry registry = new ButtonRegistry();
        registry.save();
        registry.passDays(1);
        registry.save();
        registry.passDays(1);
        registry.restore();
        Check.same("the later snapshot", 1, registry.day());
        registry.passDays(5);
        registry.restore();
        Check.same("the earlier one is gone", 1, registry.day());
    }

    /** Promise 61: "Restores the snapshot, which is kept." */
    private static void restoreKeepsTheSnapshot() {
        Twins.Step changeAll = it -> {
            it.addButton();
            it.give(0, 3, 1);
            it.setBond(0, 1, 19);
            it.setBond(1, 2, 2);
            it.hear(3);
            it.appeal(1);
            it.close(0);
            it.addPrecedent(99);
            Make.word(it, "xy");
            return it.fileCase(1, 2, 3, 4, 5);
        };
        Twins.same("restored", UndoEdgesTest::settled, it -> {
            for (int i = 0; i < 3; i++) {
                changeAll.on(it);
                it.restore();
                Make.word(it, "xy");
            }
            return it;
        }, ButtonRegistry::restore);
    }

    /** What the snapshot does not cover: word, buffer, error position, failed command and output text. */
    private static void restoreLeavesTheRest() {
        ButtonRegistry registry = Make.inUse();
        registry.save();
        registry.clearWord();
        Make.word(registry, "q");
        registry.runScript();
        Make.refusedRun(registry, "wait 1;wait 1;wait 0");
        Make.refusedRun(registry, "wa");
        registry.renderBonds(2);
        Make.script(registry, "wait 2");
        registry.restore();
        Check.same("day", 4, registry.day());
        Check.same("the word of now", 1, registry.clearWord());
        Check.same("the failed command of now", 2, registry.failedCommand());
        Check.same("the error position of now", 2, registry.errorPosition());
        Check.same("the output text of now", "2(-81)", Look.output(registry));
        Check.same("the buffer of now", 1, registry.runScript());
        Check.same("day", 6, registry.day());
    }

    /** Promise 61: "Afterwards there is nothing to undo", but what comes then can be undone. */
    private static void nothingToUndoAfterRestore() {
        ButtonRegistry registry = new ButtonRegistry();
        registry.save();
        for (int i = 0; i < 9; i++) {
            registry.passDays(1);
        }
        registry.restore();
        Check.fails("nothing to undo", STATE, registry::undo);
        Check.same("day", 0, registry.day());
        for (int i = 0; i < 9; i++) {
            registry.passDays(1);
        }
        for (int left = 7; left >= 0; left--) {
            Check.same("undo", left, registry.undo());
        }
        Check.fails("nothing more", STATE, registry::undo);
        Check.same("day", 1, registry.day());
    }

    /** "They cover the id of the next case": the snapshot, too. */
    private static void restoreCoversNextId() {
        ButtonRegistry registry = Make.withButtons(2);
        Make.file(registry, "a", 0, 1, 1, 1, 1);
        registry.withdraw(0);
        registry.save();
        Check.same("the second id", 1, Make.file(registry, "a", 0, 1, 1, 1, 1));
        Check.same("the third id", 2, Make.file(registry, "a", 0, 1, 1, 1, 1));
        registry.restore();
        Check.same("the second id again", 1, Make.file(registry, "a", 0, 1, 1, 1, 1));
    }

    /** Undo and the snapshot cover which cases have been appealed, and what their rulings were added as. */
    private static void appealsAreCovered() {
        ButtonRegistry registry = settled();
        registry.save();
        int award = registry.appeal(1);
        Check.fails("appealed", STATE, () -> registry.appeal(1));
        registry.undo();
        Check.same("appealed again after undo", award, registry.appeal(1));
        registry.restore();
        Check.same("appealed again after restore", award, registry.appeal(1));
        Check.same("its precedent has changed again", registry.percentage(1), registry.precedentPercentage(3));
        registry.restore();
        Check.fails("the other one remains appealed", STATE, () -> registry.appeal(0));
        Check.same("its precedent is as it was", 70, registry.precedentPercentage(3));
    }
}
