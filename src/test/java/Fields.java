/** Steps that several tests take on a field. */
final class Fields {
    private Fields() {
    }

    /** Tells the same result for the one who is white in every game of the open round. */
    static void tellAll(PairedField field, int whiteResult) {
        for (int p = 0; p < field.players(); p++) {
            if (field.isWhite(p)) {
                field.report(p, whiteResult);
            }
        }
    }

    static void playDrawnRound(PairedField field) {
        field.pair();
        tellAll(field, 1);
        field.close();
    }

    static void keepApartFrom(PairedField field, int p, int... others) {
        for (int q : others) {
            field.apart(p, q, true);
        }
    }

    static void dueOpponents(String what, PairedField field, int... opponents) {
        for (int p = 0; p < opponents.length; p++) {
            Check.due(what + ": opponent(" + p + ")", field.opponent(p), opponents[p]);
        }
    }

    /** The colours of all players as letters: w for white, - for not. */
    static String colours(PairedField field) {
        StringBuilder text = new StringBuilder();
        for (int p = 0; p < field.players(); p++) {
            text.append(field.isWhite(p) ? 'w' : '-');
        }
        return text.toString();
    }

    static String table(PairedField field) {
        StringBuilder text = new StringBuilder();
        for (int place = 0; place < field.players(); place++) {
            text.append(place == 0 ? "" : " ").append(field.table(place));
        }
        return text.toString();
    }

    /** All that tell answers of a player, in the order of what. */
    static String figures(PairedField field, int p) {
        StringBuilder text = new StringBuilder();
        for (int what = 0; what < 7; what++) {
            text.append(what == 0 ? "" : " ").append(field.tell(p, what));
        }
        return text.toString();
    }
}
