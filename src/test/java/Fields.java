/** Steps that several tests take on a field. */
final class Fields {
    private Fields() {
    }

    /** Tells the same result for the one who is white in every game of the open round. */
    static void tellAll(PairedField field, int whiteResult) {
        for (int p = 0; p < field.players(); p++) {
            if (field.isWhite(p)) {
                field.report(p, whiteResult);
            }
        }
    }

    static void playDrawnRound(PairedField field) {
        field.pair();
        tellAll(field, 1);
        field.close();
    }

    /** A field in which nobody may meet anybody, until letMeet says so. */
    static PairedField allApart(int players) {
        PairedField field = new PairedField(players);
        for (int p = 0; p < players; p++) {
            for (int q = p + 1; q < players; q++) {
                field.apart(p, q, true);
            }
        }
        return field;
    }

    static void letMeet(PairedField field, int... twoAndTwo) {
        for (int i = 0; i < twoAndTwo.length; i += 2) {
            field.apart(twoAndTwo[i], twoAndTwo[i + 1], false);
        }
    }

    /** All but these go out. */
    static void leaveAllBut(PairedField field, int... staying) {
        for (int p = 0; p < field.players(); p++) {
            boolean stays = false;
            for (int s : staying) {
                stays |= s == p;
            }
            if (!stays && field.isIn(p)) {
                field.leave(p);
            }
        }
    }

    /** A round is paired, told and closed; results are the player and what it got, by turns. */
    static void playRound(PairedField field, int... results) {
        field.pair();
        for (int i = 0; i < results.length; i += 2) {
            field.report(results[i], results[i + 1]);
        }
        field.close();
    }

    /** One player has had so many byes and nothing else, and is alone in the field. */
    static PairedField afterByes(int byes) {
        PairedField field = new PairedField(2);
        field.leave(1);
        field.play(byes);
        return field;
    }

    static boolean isOpen(PairedField field) {
        return Check.thrownBy(() -> field.missing()).equals("nothing");
    }

    static void keepApartFrom(PairedField field, int p, int... others) {
        for (int q : others) {
            field.apart(p, q, true);
        }
    }

    static void dueOpponents(String what, PairedField field, int... opponents) {
        for (int p = 0; p < opponents.length; p++) {
            Check.due(what + ": opponent(" + p + ")", field.opponent(p), opponents[p]);
        }
    }

    /** The colours of all players as letters: w for white, - for not. */
    static String colours(PairedField field) {
        StringBuilder text = new StringBuilder();
        for (int p = 0; p < field.players(); p++) {
            text.append(field.isWhite(p) ? 'w' : '-');
        }
        return text.toString();
    }

    static String table(PairedField field) {
        StringBuilder text = new StringBuilder();
        for (int place = 0; place < field.players(); place++) {
            text.append(place == 0 ? "" : " ").append(field.table(place));
        }
        return text.toString();
    }

    /** All that tell answers of a player, in the order of what. */
    static String figures(PairedField field, int p) {
        StringBuilder text = new StringBuilder();
        for (int what = 0; what < 7; what++) {
            text.append(what == 0 ? "" : " ").append(field.tell(p, what));
        }
        return text.toString();
    }
}
