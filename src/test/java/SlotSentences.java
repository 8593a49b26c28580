/** Promises 26 and 27: the save slots. */
final class SlotSentences extends Sentences {
    private SlotSentences() {
    }

    static void all() {
        saveArguments();
        saveAnswers();
        storesThePresentState();
        restoreArguments();
        nothingSaved();
        restoreAnswers();
        replacesTheState();
        forgetsRememberedStates();
        theSlotKeepsIt();
    }

    private static void saveArguments() {
        sentence("Promise 26", "slot: 0 or 1");
        sentence("Promise 26", "Throws IndexOutOfBoundsException if there is no such save slot");
        limits(INDEX, RICH, 0, 1, (b, slot) -> b.save(slot));
        limits(INDEX, Scenes::empty, 0, 1, (b, slot) -> b.save(slot));
        refused(INDEX, RICH, b -> b.save(NONE));
    }

    private static void saveAnswers() {
        sentence("Promise 26", "Returns the number of parts.");
        for (int parts = 0; parts <= 10; parts++) {
            due("parts", parts, Scenes.parts(parts).save(parts % 2));
        }
    }

    private static void storesThePresentState() {
        sentence("Promise 26", "Stores the present state in a save slot.");
        for (Scenes.Scene scene : new Scenes.Scene[] {RICH, ANEW, Scenes::full, Scenes::empty}) {
            for (int slot = 0; slot <= 1; slot++) {
                BlameChains b = scene.made();
                String before = Look.state(scene.made());
                b.save(slot);
                due("saving changes nothing of the state", before, Look.state(b));
                b = scene.made();
                b.save(slot);
                Scenes.write(b, "");
                for (int p = 0; p < b.about(0); p++) {
                    b.chain(p, NONE, 0);
                    b.own(p, 0, 0, 0, 0);
                    b.call(p, 1);
                }
                b.restore(slot);
                due("the state as it was saved", before, Look.state(b));
            }
        }
        BlameChains b = Scenes.parts(1);
        b.save(0);
        b.add(1, 0);
        b.save(1);
        b.add(1, 0);
        due("slot 0", 1, b.restore(0));
        due("slot 1", 2, b.restore(1));
        b.save(0);
        due("slot 0 anew", 2, b.restore(0));
    }

    private static void restoreArguments() {
        sentence("Promise 27", "slot: 0 or 1");
        sentence("Promise 27", "Throws IndexOutOfBoundsException if there is no such save slot");
        limits(INDEX, RICH, 0, 1, (b, slot) -> b.restore(slot));
        refused(INDEX, Scenes::empty, b -> b.restore(-1));
        refused(INDEX, Scenes::empty, b -> b.restore(2));
        refused(INDEX, RICH, b -> b.restore(NONE));
    }

    private static void nothingSaved() {
        sentence("Promise 27", "Throws IllegalStateException if nothing has been saved in it since the last load");
        refused(STATE, Scenes::empty, b -> b.restore(0));
        refused(STATE, Scenes::empty, b -> b.restore(1));
        for (int slot = 0; slot <= 1; slot++) {
            int saved = slot;
            Scenes.Scene one = () -> {
                BlameChains b = Scenes.three();
                b.save(saved);
                return b;
            };
            goes(one, b -> b.restore(saved));
            refused(STATE, one, b -> b.restore(1 - saved));
            Scenes.Scene loaded = () -> {
                BlameChains b = Scenes.rich();
                b.load();
                return b;
            };
            refused(STATE, loaded, b -> b.restore(saved));
            Scenes.Scene savedAgain = () -> {
                BlameChains b = loaded.made();
                b.save(saved);
                return b;
            };
            goes(savedAgain, b -> b.restore(saved));
            refused(STATE, savedAgain, b -> b.restore(1 - saved));
        }
        goes(() -> Scenes.write(Scenes.rich(), "x"), b -> b.restore(0));
    }

    private static void restoreAnswers() {
        sentence("Promise 27", "Returns the number of parts then.");
        for (int parts = 0; parts <= 10; parts++) {
            BlameChains b = Scenes.parts(parts);
            b.save(1);
            if (parts < 10) {
                b.add(1, 0);
            }
            due("parts", parts, b.restore(1));
            due("told", parts, b.about(0));
        }
    }

    private static void replacesTheState() {
        sentence("Promise 27", "Replaces the state by the one in a save slot,");
        BlameChains b = Scenes.empty();
        b.save(0);
        for (int p = 0; p < 10; p++) {
            b.add(1, 0);
            b.own(p, 0, 0, 0, 0);
            b.link(NONE, p, 5, 5, 5, 5);
            b.net(p, p);
            b.call(p, 7);
        }
        b.append('C');
        String full = Look.state(b);
        b.save(1);
        b.restore(0);
        due("the empty state", Look.state(new BlameChains()), Look.state(b));
        due("the text stays", 1, b.clearText());
        b.restore(1);
        due("the full state", full, Look.state(b));
        due("the text is not brought back", 0, b.clearText());
    }

    private static void forgetsRememberedStates() {
        sentence("Promise 27", "and forgets all remembered states.");
        for (int slot = 0; slot <= 1; slot++) {
            int saved = slot;
            Scenes.Scene restored = () -> {
                BlameChains b = Scenes.rich();
                b.restore(saved);
                return b;
            };
            refused(STATE, restored, b -> b.undo());
            BlameChains b = restored.made();
            b.net(0, 1);
            b.net(0, 2);
            due("two behind it", 1, b.undo());
            due("one behind it", 0, b.undo());
        }
    }

    private static void theSlotKeepsIt() {
        sentence("Promise 27", "The save slot keeps it.");
        BlameChains b = Scenes.rich();
        String other = Look.state(restored(Scenes.rich(), 0));
        String saved = Look.state(restored(Scenes.rich(), 1));
        b.restore(1);
        b.add(1, 0);
        b.own(1, 0, 0, 0, 0);
        b.call(2, 501);
        due("again", saved, Look.state(restored(b, 1)));
        BlameChains undone = restored(Scenes.rich(), 1);
        undone.net(1, 5);
        undone.undo();
        undone.drop(OWN, 0);
        due("the other slot too", other, Look.state(restored(undone, 0)));
    }

    private static BlameChains restored(BlameChains b, int slot) {
        b.restore(slot);
        return b;
    }
}
