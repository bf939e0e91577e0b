/** A call that is refused: which exception it throws, and that nothing has changed after it. */
final class Refused {
    /** Makes the field on which the call is refused, the same every time. */
    interface Recipe {
        PairedField make();
    }

    interface Step {
        void on(PairedField field);
    }

    private Refused() {
    }

    static void byState(String what, Recipe recipe, Step call) {
        due(what, "IllegalStateException", recipe, call);
    }

    static void byArgument(String what, Recipe recipe, Step call) {
        due(what, "IllegalArgumentException", recipe, call);
    }

    static void byIndex(String what, Recipe recipe, Step call) {
        due(what, "IndexOutOfBoundsException", recipe, call);
    }

    static void byElement(String what, Recipe recipe, Step call) {
        due(what, "NoSuchElementException", recipe, call);
    }

    private static void due(String what, String exception, Recipe recipe, Step call) {
        sameAfter(what + ", looked at", exception, recipe, call, field -> { });
        // What can't be asked for at once (who is kept apart, what was told) shows later.
        sameAfter(what + ", played on", exception, recipe, call, Refused::playOn);
        sameAfter(what + ", taken back", exception, recipe, call, Refused::takeAllBack);
    }

    private static void sameAfter(String what, String exception, Recipe recipe, Step call, Step then) {
        PairedField refused = recipe.make();
        Check.due(what + " throws", Check.thrownBy(() -> call.on(refused)), exception);
        PairedField spared = recipe.make();
        then.on(refused);
        then.on(spared);
        Check.due(what + ": what threw changed nothing", Check.stateOf(refused), Check.stateOf(spared));
    }

    private static void playOn(PairedField field) {
        if (Fields.isOpen(field)) {
            for (int p = 0; p < field.players(); p++) {
                tellIfUntold(field, p);
            }
            field.close();
        }
        field.play(16);
    }

    private static void tellIfUntold(PairedField field, int p) {
        try {
            field.report(p, p % 3);
        } catch (IllegalStateException e) {
            // No game, or told before.
        }
    }

    private static void takeAllBack(PairedField field) {
        if (Fields.isOpen(field)) {
            field.back();
        }
        while (field.rounds() > 0) {
            field.back();
        }
    }
}
