import java.lang.reflect.Field;

/** The boundaries of promises 9 to 14: voices, recordings and reels. */
final class VoiceBoundaries {
    private static final String NO_TRANSLATION = "Throws `IndexOutOfBoundsException` if there is no such clause or tongue";
    private static final String STATE = "- `state`: 0 to 4";
    private static final String REEL = "- `reel`: 0 to 3";
    private static final String TONGUE = "- `tongue`: 0 to 2";
    private static final String UNDOABLE = "Undoable.";

    private VoiceBoundaries() {
    }

    static void tests() {
        cast();
        record();
        recordRefused();
        wipe();
        nextSession();
        mix();
        mixRefused();
        sign();
    }

    // ---- promise 9

    /** Voice 1 in tongue 1 was used for 50 frames. */
    private static SighTreaties usedFor50() {
        SighTreaties x = Made.with("0B50~10;0B40");
        Made.take(x, 0, 1, 40);
        return x;
    }

    private static void cast() {
        Boundary.test(9, UNDOABLE, () -> Boundary.saves("cast", VoiceBoundaries::usedFor50, x -> x.cast(1, 1, 120)));
        Boundary.test(9, STATE, () ->
            Boundary.range(Made::translated, 0, 4, Boundary.INDEX, (x, state) -> x.cast(state, 2, 20)));
        Boundary.test(9, TONGUE, () ->
            Boundary.range(Made::translated, 0, 2, Boundary.INDEX, (x, tongue) -> x.cast(4, tongue, 20)));
        Boundary.test(9, "- `stamina`: 20 to 120", () -> {
            for (int stamina = 20; stamina <= 120; stamina++) {
                int s = stamina;
                SighTreaties x = Boundary.answers("stamina " + s, Made::empty, 80, y -> y.cast(4, 2, s));
                Boundary.due("its stamina", x.staminaOf(4, 2), s);
                Boundary.due("its strength", x.strengthLeft(4, 2), s);
            }
        });
        Boundary.test(9, "Returns the stamina before.", () -> {
            SighTreaties x = Boundary.answers("at first", Made::empty, 60, y -> y.cast(0, 0, 20));
            Boundary.due("the least", x.cast(0, 0, 120), 20);
            Boundary.due("the most", x.cast(0, 0, 120), 120);
        });
        Boundary.test(9, "Throws `IndexOutOfBoundsException` if there is no such state or tongue", () ->
            Boundary.noSuchStateOrTongue(Made::recorded, (x, state, tongue) -> x.cast(state, tongue, 120)));
        Boundary.test(9, "Throws `IllegalArgumentException` if stamina is out of range", () ->
            Boundary.range(Made::translated, 20, 120, Boundary.ARGUMENT, (x, stamina) -> x.cast(0, 0, stamina)));
        Boundary.test(9, "Throws `IllegalStateException` if the voice was used for more frames in this session", () -> {
            Boundary.refused("one less", VoiceBoundaries::usedFor50, Boundary.STATE, x -> x.cast(1, 1, 49));
            SighTreaties x = Boundary.answers("as many", VoiceBoundaries::usedFor50, 70, y -> y.cast(1, 1, 50));
            Boundary.due("nothing is left", x.strengthLeft(1, 1), 0);
            Boundary.answers("another tongue", VoiceBoundaries::usedFor50, 80, y -> y.cast(1, 2, 20));
            Boundary.answers("another state", VoiceBoundaries::usedFor50, 70, y -> y.cast(2, 1, 20));
            x.wipe(0, 1);
            Boundary.due("wiped", Boundary.answer(x, y -> y.cast(1, 1, 49)), Boundary.STATE);
            x.nextSession();
            Boundary.due("in another session", x.cast(1, 1, 49), 50);
        });
    }

    // ---- promise 10

    private static void record() {
        Boundary.test(10, UNDOABLE, () -> Boundary.saves("record", Made::translated, x -> x.record(0, 0)));
        Boundary.test(10, TONGUE, () ->
            Boundary.range(Made::translated, 0, 2, Boundary.INDEX, (x, tongue) -> x.record(2, tongue)));
        Boundary.test(10, "Returns the strength that is left to the voice in this session.", () -> {
            Boundary.answers("with the sigh", Made::translated, 60 - 15 - 4, x -> x.record(0, 0));
            Boundary.answers("in the last tongue", Made::translated, 80 - 15 - 4, x -> x.record(0, 2));
            SighTreaties x = Made.with("0A60;0A60");
            x.cast(0, 0, 61);
            x.translate(0, 0, 60);
            x.translate(1, 0, 1);
            Boundary.due("1", x.record(0, 0), 1);
            Boundary.due("0", x.record(1, 0), 0);
            x.cast(0, 1, 120);
            x.translate(0, 1, 1);
            Boundary.due("the most", x.record(0, 1), 119);
        });
        Boundary.test(10, NO_TRANSLATION, () ->
            Boundary.noSuchClauseOrTongue(Made::translated, (x, clause, tongue) -> x.record(clause, tongue)));
    }

    private static SighTreaties translatedWith(int frames, int stamina) {
        SighTreaties x = Made.with("0A40~5");
        x.translate(0, 2, frames);
        x.cast(0, 2, stamina);
        return x;
    }

    private static void recordRefused() {
        Boundary.test(10, "Throws `IllegalStateException` if there is a reason against it", () -> {
            Boundary.refused("1", Made::one, Boundary.STATE, x -> x.record(0, 0));
            Boundary.refused("1, in this tongue", () -> translatedWith(35, 80), Boundary.STATE, x -> x.record(0, 1));
            Boundary.refused("2", Made::recorded, Boundary.STATE, x -> x.record(0, 1));
            Boundary.refused("2, mixed and signed", Made::signed, Boundary.STATE, x -> x.record(7, 2));
            Boundary.refused("3, by 1", () -> translatedWith(36, 80), Boundary.STATE, x -> x.record(0, 2));
            Boundary.answers("none, as long as lips", () -> translatedWith(35, 80), 40, x -> x.record(0, 2));
            Boundary.refused("4, by 1", () -> translatedWith(35, 39), Boundary.STATE, x -> x.record(0, 2));
            Boundary.answers("none, as much as the strength", () -> translatedWith(35, 40), 0, x -> x.record(0, 2));
            SighTreaties x = translatedWith(35, 40);
            x.record(0, 2);
            x.wipe(0, 2);
            Boundary.due("4, since strength does not come back", Boundary.answer(x, y -> y.record(0, 2)), Boundary.STATE);
            x.nextSession();
            Boundary.due("none, in the next session", x.record(0, 2), 0);
        });
    }

    // ---- promise 11

    private static void wipe() {
        Boundary.test(11, "its reel is not mixed any more in this tongue.", () -> {
            for (int clause = 0; clause < 8; clause++) {
                for (int tongue = 0; tongue < 3; tongue++) {
                    wipeOf(clause, tongue);
                }
            }
        });
        Boundary.test(11, "The strength does not come back.", () -> {
            SighTreaties x = Boundary.answers("wipe", Made::recorded, 1, y -> y.wipe(0, 2));
            Boundary.due("strength", x.strengthLeft(0, 2), 80 - 19);
            Boundary.due("once more", x.record(0, 2), 80 - 38);
        });
        Boundary.test(11, UNDOABLE, () -> {
            Boundary.saves("wipe", Made::recorded, x -> x.wipe(0, 0));
            Boundary.saves("wipe, mixed", Made::mixed, x -> x.wipe(1, 2));
        });
        Boundary.test(11, TONGUE, () ->
            Boundary.range(Made::recorded, 0, 2, Boundary.INDEX, (x, tongue) -> x.wipe(2, tongue)));
        Boundary.test(11, "Returns the session in which it was recorded.", () -> {
            Boundary.answers("the first one", Made::recorded, 0, x -> x.wipe(2, 0));
            SighTreaties x = Boundary.answers("the next one", Made::recorded, 1, y -> y.wipe(2, 1));
            x.nextSession();
            x.record(2, 1);
            x.nextSession();
            Boundary.due("not the present one", x.wipe(2, 1), 2);
        });
        Boundary.test(11, NO_TRANSLATION, () ->
            Boundary.noSuchClauseOrTongue(Made::recorded, (x, clause, tongue) -> x.wipe(clause, tongue)));
        Boundary.test(11, "Throws `IllegalStateException` if the clause is not recorded in this tongue", () -> {
            Boundary.refused("not translated", Made::one, Boundary.STATE, x -> x.wipe(0, 0));
            Boundary.refused("translated", Made::translated, Boundary.STATE, x -> x.wipe(0, 0));
            for (int tongue = 0; tongue < 3; tongue++) {
                int t = tongue;
                SighTreaties x = Boundary.answers("wipe", Made::recorded, t == 0 ? 0 : 1, y -> y.wipe(1, t));
                Boundary.due("wiped already", Boundary.answer(x, y -> y.wipe(1, t)), Boundary.STATE);
                Boundary.due("still recorded in the next", x.isRecorded(1, (t + 1) % 3), true);
                Boundary.due("wiped ones", x.wiped(), 1);
            }
        });
    }

    private static void wipeOf(int clause, int tongue) {
        SighTreaties x = Boundary.answers("wipe", Made::council, 0, y -> y.wipe(clause, tongue));
        for (int reel = 0; reel < 4; reel++) {
            for (int t = 0; t < 3; t++) {
                boolean its = reel == x.reelOf(clause) && t == tongue;
                Boundary.due("reel " + reel + " in " + t + " is mixed", x.isMixed(reel, t), !its);
            }
        }
    }

    // ---- promise 12

    /** No run of 512 calls gets there, so the number is put into the object from outside. */
    private static SighTreaties inSession(int number) {
        SighTreaties x = Made.translated();
        try {
            Field now = SighTreaties.class.getDeclaredField("now");
            now.setAccessible(true);
            Field session = now.getType().getDeclaredField("session");
            session.setAccessible(true);
            session.setInt(now.get(x), number);
        } catch (ReflectiveOperationException e) {
            throw new IllegalStateException("the number of the session is not where this test looks for it", e);
        }
        return x;
    }

    private static void nextSession() {
        Boundary.test(12, "all voices have their whole strength again.", () -> {
            SighTreaties x = Made.council();
            x.cast(0, 0, 20);
            x.cast(4, 2, 120);
            x.nextSession();
            for (int state = 0; state < 5; state++) {
                for (int tongue = 0; tongue < 3; tongue++) {
                    Boundary.due("strength", x.strengthLeft(state, tongue), x.staminaOf(state, tongue));
                }
            }
            Boundary.due("recordings stay", x.recordedIn(2), 8);
            Boundary.due("mixes stay", x.isMixed(3, 2), true);
        });
        Boundary.test(12, UNDOABLE, () -> {
            Boundary.saves("nextSession", Made::recorded, x -> x.nextSession());
            Boundary.saves("the last one", () -> inSession(998), x -> x.nextSession());
        });
        Boundary.test(12, "Returns the number of the session.", () -> {
            SighTreaties x = Boundary.answers("the first call", Made::empty, 1, y -> y.nextSession());
            Boundary.due("the second one", x.nextSession(), 2);
            x.undo();
            x.undo();
            Boundary.due("after undo", x.nextSession(), 1);
        });
        Boundary.test(12, "Throws `IllegalStateException` if it would be above 999", () -> {
            Boundary.answers("to the last one", () -> inSession(998), 999, x -> x.nextSession());
            Boundary.refused("above it", () -> inSession(999), Boundary.STATE, x -> x.nextSession());
            SighTreaties x = inSession(999);
            x.record(0, 0);
            Boundary.due("a recording in the last one", x.sessionOf(0, 0), 999);
            Boundary.due("it is wiped", x.wipe(0, 0), 999);
        });
    }

    // ---- promise 13

    private static void mix() {
        Boundary.test(13, UNDOABLE, () -> Boundary.saves("mix", Made::complete, x -> x.mix(3, 2)));
        Boundary.test(13, REEL, () -> {
            Boundary.range(Made::complete, 0, 3, Boundary.INDEX, (x, reel) -> x.mix(reel, 2));
            onlyMixed(3, 0);
        });
        Boundary.test(13, TONGUE, () -> {
            Boundary.range(Made::complete, 0, 2, Boundary.INDEX, (x, tongue) -> x.mix(3, tongue));
            onlyMixed(0, 2);
        });
        Boundary.test(13, "Returns the frames of silence in it: by how much the lips of all its clauses are longer than "
            + "translations and sighs, together.", () -> {
                Boundary.answers("of five clauses", Made::complete, 5, x -> x.mix(0, 0));
                Boundary.answers("of one clause", Made::complete, 1, x -> x.mix(1, 0));
                Boundary.answers("none, by a sigh", Made::complete, 0, x -> x.mix(3, 0));
                SighTreaties x = Made.with("2A60");
                Made.take(x, 0, 1, 1);
                Boundary.due("the most of a clause", x.mix(2, 1), 59);
            });
        Boundary.test(13, "Throws `IndexOutOfBoundsException` if there is no such reel or tongue", () ->
            Boundary.noSuchReelOrTongue(Made::complete, (x, reel, tongue) -> x.mix(reel, tongue)));
    }

    private static void onlyMixed(int reel, int tongue) {
        SighTreaties x = Made.complete();
        x.mix(reel, tongue);
        for (int r = 0; r < 4; r++) {
            for (int t = 0; t < 3; t++) {
                Boundary.due("mixed", x.isMixed(r, t), r == reel && t == tongue);
            }
        }
        Boundary.due("mixes", x.mixes(), 1);
    }

    private static void mixRefused() {
        Boundary.test(13, "Throws `IllegalStateException` if it is mixed already, or is not complete", () -> {
            for (int tongue = 0; tongue < 3; tongue++) {
                int t = tongue;
                Boundary.refused("mixed already", Made::council, Boundary.STATE, x -> x.mix(3, t));
                Boundary.refused("signed already", Made::signed, Boundary.STATE, x -> x.mix(0, t));
                Boundary.refused("without clauses", Made::one, Boundary.STATE, x -> x.mix(1, t));
                Boundary.refused("without any clauses", Made::empty, Boundary.STATE, x -> x.mix(0, t));
            }
            for (int clause = 0; clause < 5; clause++) {
                int c = clause;
                Boundary.refused("all but " + c, () -> allBut(c), Boundary.STATE, x -> x.mix(0, 1));
                Boundary.answers("in another tongue", () -> allBut(c), 5, x -> x.mix(0, 2));
                Boundary.answers("another reel", () -> allBut(c), 0, x -> x.mix(3, 1));
            }
            SighTreaties x = Made.council();
            x.addClause(1, 3, 10);
            Boundary.due("a clause more", Boundary.answer(x, y -> y.mix(1, 0)), Boundary.STATE);
            Made.take(x, 8, 0, 8);
            Boundary.due("complete again", x.mix(1, 0), 3);
        });
    }

    private static SighTreaties allBut(int clause) {
        SighTreaties x = Made.complete();
        x.wipe(clause, 1);
        return x;
    }

    // ---- promise 14

    private static void sign() {
        Boundary.test(14, UNDOABLE, () -> Boundary.saves("sign", Made::council, x -> x.sign(4, 0, 2)));
        Boundary.test(14, STATE, () ->
            Boundary.range(Made::council, 0, 4, Boundary.INDEX, (x, state) -> x.sign(state, 0, 2)));
        Boundary.test(14, REEL, () -> {
            Boundary.range(Made::council, 0, 3, Boundary.INDEX, (x, reel) -> x.sign(0, reel, 2));
            onlySigned(0, 3, 0);
        });
        Boundary.test(14, TONGUE, () -> {
            Boundary.range(Made::council, 0, 2, Boundary.INDEX, (x, tongue) -> x.sign(0, 3, tongue));
            onlySigned(4, 0, 2);
        });
        Boundary.test(14, "Returns how many signatures are missing then.", () -> {
            SighTreaties x = Made.council();
            for (int state = 0; state < 5; state++) {
                Boundary.due("missing behind " + state, x.sign(state, 0, 0), 4 - state);
            }
            Boundary.due("of one state", x.sign(0, 1, 0), 0);
        });
        Boundary.test(14, "Throws `IndexOutOfBoundsException` if there is no such state, reel or tongue", () -> {
            Boundary.noSuchStateOrTongue(Made::council, (x, state, tongue) -> x.sign(state, 0, tongue));
            Boundary.noSuchReelOrTongue(Made::council, (x, reel, tongue) -> x.sign(0, reel, tongue));
            Boundary.noSuchStateOrReel(Made::council, (x, state, reel) -> x.sign(state, reel, 2));
        });
        Boundary.test(14, "Throws `IllegalStateException` if the reel is not mixed, the state does not speak in it, or has "
            + "signed it", () -> {
                for (int tongue = 0; tongue < 3; tongue++) {
                    int t = tongue;
                    Boundary.refused("not mixed", Made::complete, Boundary.STATE, x -> x.sign(4, 0, t));
                    Boundary.refused("no clauses", Made::one, Boundary.STATE, x -> x.sign(0, 1, t));
                    Boundary.refused("does not speak in it", Made::council, Boundary.STATE, x -> x.sign(1, 3, t));
                    for (int state = 0; state < 5; state++) {
                        int s = state;
                        Boundary.refused("has signed it", Made::signed, Boundary.STATE, x -> x.sign(s, 0, t));
                    }
                }
                SighTreaties x = Made.signed();
                x.wipe(4, 1);
                Boundary.due("wiped", Boundary.answer(x, y -> y.sign(0, 0, 1)), Boundary.STATE);
                x.record(4, 1);
                Boundary.due("recorded", Boundary.answer(x, y -> y.sign(0, 0, 1)), Boundary.STATE);
                x.mix(0, 1);
                Boundary.due("mixed again", x.sign(0, 0, 1), 4);
            });
    }

    private static void onlySigned(int state, int reel, int tongue) {
        SighTreaties x = Made.council();
        x.sign(state, reel, tongue);
        for (int r = 0; r < 4; r++) {
            for (int t = 0; t < 3; t++) {
                for (int s = 0; s < 5; s++) {
                    Boundary.due("signed", x.hasSigned(s, r, t), s == state && r == reel && t == tongue);
                }
            }
        }
    }
}
