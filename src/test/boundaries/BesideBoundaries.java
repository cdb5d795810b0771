/**
 * What stands beside that which is asked for does not count: other clauses, states, tongues and reels, and what an
 * earlier call has left in rows that are used again.
 */
final class BesideBoundaries {
    private static final String NO_VOICE = "Throws `IndexOutOfBoundsException` if there is no such state or tongue";

    private BesideBoundaries() {
    }

    static void tests() {
        recordedBeside();
        longestSighBeside();
        voices();
        framesOfOneVoice();
        silence();
        signers();
        longestOfAll();
        laterPlans();
        noSuchVoice();
        laterTexts();
    }

    /** Three clauses of state A on reel 0, recorded in all tongues but for the middle one. */
    private static SighTreaties middleUnrecorded() {
        SighTreaties x = Made.with("0A20;0A20;0A20");
        for (int tongue = 0; tongue < 3; tongue++) {
            Made.take(x, 0, tongue, 20);
            Made.take(x, 2, tongue, 20);
        }
        return x;
    }

    private static void recordedBeside() {
        Boundary.test(3, "if it is recorded in some tongue", () ->
            Boundary.answers("lips between recorded ones", BesideBoundaries::middleUnrecorded, 20, x -> x.changeLips(1, 21)));
        Boundary.test(4, "if it is recorded in some tongue", () ->
            Boundary.answers("a sigh between recorded ones", BesideBoundaries::middleUnrecorded, 0, x -> x.changeSigh(1, 9)));
        Boundary.test(5, "if it is recorded in some tongue", () ->
            Boundary.answers("a move between recorded ones", BesideBoundaries::middleUnrecorded, 0, x -> x.moveClause(1, 3)));
    }

    private static void longestSighBeside() {
        Boundary.test(61, "so that all translations that there are fit", () -> {
            SighTreaties x = Made.with("0A60;0A60;0A60");
            for (int tongue = 0; tongue < 3; tongue++) {
                x.translate(0, tongue, 60);
                x.translate(2, tongue, 60);
            }
            Boundary.due("between full ones", x.longestSigh(1), 20);
            x.translate(1, 1, 50);
            Boundary.due("between full ones, translated", x.longestSigh(1), 10);
        });
        Boundary.test(61, "Throws `IllegalStateException` if some translation does not fit without a sigh, either", () -> {
            for (int frames = 5; frames <= 60; frames++) {
                int f = frames;
                for (int tongue = 0; tongue < 3; tongue++) {
                    int t = tongue;
                    SighTreaties x = Made.with("0A4");
                    x.translate(0, t, f);
                    Boundary.due("too long by " + (f - 4), Boundary.answer(x, y -> y.longestSigh(0)), Boundary.STATE);
                }
            }
        });
    }

    // ---- voices

    private static SighTreaties oneOfEachState() {
        return Made.with("0A60;1B60;2C60;3D60;0E60");
    }

    private static void voices() {
        Boundary.test(Boundary.TERMS, "Recording a clause uses the voice of its state in the tongue", () -> {
            for (int state = 0; state < 5; state++) {
                for (int tongue = 0; tongue < 3; tongue++) {
                    onlyItsVoice(state, tongue);
                }
            }
        });
        Boundary.test(12, "all voices have their whole strength again.", () -> {
            SighTreaties x = oneOfEachState();
            for (int state = 0; state < 5; state++) {
                for (int tongue = 0; tongue < 3; tongue++) {
                    Made.take(x, state, tongue, 7);
                }
            }
            x.nextSession();
            for (int state = 0; state < 5; state++) {
                for (int tongue = 0; tongue < 3; tongue++) {
                    Boundary.due("whole strength", x.strengthLeft(state, tongue), 60 + 10 * tongue);
                }
            }
        });
    }

    private static void onlyItsVoice(int state, int tongue) {
        SighTreaties x = oneOfEachState();
        x.translate(state, tongue, 13);
        Boundary.due("strength that is left", x.record(state, tongue), 47 + 10 * tongue);
        x.undo();
        Boundary.due("undone", x.strengthLeft(state, tongue), 60 + 10 * tongue);
        x.record(state, tongue);
        for (int s = 0; s < 5; s++) {
            for (int t = 0; t < 3; t++) {
                int used = s == state && t == tongue ? 13 : 0;
                Boundary.due("strength of " + s + " in " + t, x.strengthLeft(s, t), 60 + 10 * t - used);
                Boundary.due("frames of " + s + " in " + t, x.framesOfVoice(s, t), used);
            }
        }
    }

    /** Each of 24 clauses is once the only one that is recorded. */
    private static void framesOfOneVoice() {
        Boundary.test(39, "Returns the frames of all recordings of a voice that there are", () -> {
            for (int clause = 0; clause < 24; clause++) {
                SighTreaties x = Made.full();
                Made.take(x, clause, 2, 10);
                Boundary.due("clause " + clause + " alone", x.framesOfVoice(clause % 5, 2), 10);
                Boundary.due("clause " + clause + " in its tongue", x.recordedIn(2), 1);
            }
        });
    }

    // ---- reels

    private static void silence() {
        Boundary.test(13, "Returns the frames of silence in it", () -> {
            for (int clauses = 1; clauses <= 24; clauses++) {
                SighTreaties x = Made.empty();
                for (int clause = 1; clause < clauses; clause++) {
                    x.addClause(clause % 3, clause % 5, 60);
                }
                int last = x.addClause(3, 4, 30);
                Made.take(x, last, 1, 11);
                Boundary.due("a reel with the last of " + clauses, x.mix(3, 1), 19);
            }
        });
    }

    /** Reel 2 is mixed in tongue 1, and nobody has signed it. */
    private static SighTreaties unsigned() {
        SighTreaties x = Made.with("2A10;2C10;2E10");
        for (int clause = 0; clause < 3; clause++) {
            Made.take(x, clause, 1, 10);
        }
        x.mix(2, 1);
        return x;
    }

    private static void signers() {
        Boundary.test(21, "Restores the latest saved state", () -> {
            for (int state = 0; state < 5; state += 2) {
                SighTreaties x = unsigned();
                x.sign(state, 2, 1);
                x.undo();
                Boundary.due("signatures before " + state + " signed", x.signaturesOn(2, 1), 0);
                x.sign(state, 2, 1);
                x.nextSession();
                x.undo();
                onlySigner(x, state);
            }
        });
        Boundary.test(20, "Goes back to a snapshot, which stays.", () -> {
            for (int state = 0; state < 5; state += 2) {
                SighTreaties x = unsigned();
                x.keep(0);
                x.sign(state, 2, 1);
                x.keep(1);
                x.goBack(0);
                Boundary.due("signatures before " + state + " signed", x.signaturesOn(2, 1), 0);
                x.goBack(1);
                onlySigner(x, state);
            }
        });
    }

    private static void onlySigner(SighTreaties x, int state) {
        for (int s = 0; s < 5; s++) {
            Boundary.due("signed by " + s, x.hasSigned(s, 2, 1), s == state);
        }
        Boundary.due("signatures of " + state + " alone", x.signaturesOn(2, 1), 1);
    }

    // ---- tongues

    /** Each of 24 clauses is once the longest one; all others have as many frames as one another. */
    private static void longestOfAll() {
        Boundary.test(62, "Finds the clause that can be recorded now in a tongue, with the most frames", () -> {
            for (int clause = 0; clause < 24; clause++) {
                SighTreaties x = Made.empty();
                for (int other = 0; other < 24; other++) {
                    x.addClause(other % 4, other % 5, 60);
                    x.translate(other, 2, other == clause ? 41 : 40);
                }
                Boundary.due("the longest one", x.nextClause(2), clause);
            }
        });
    }

    // ---- rows that are used again

    /** The voice of A has three clauses of 60 frames before it; that of B has one, as long as its stamina of 20. */
    private static SighTreaties longAndShort() {
        SighTreaties x = Made.with("0A60;0A60;0A60;1B60");
        for (int clause = 0; clause < 3; clause++) {
            x.translate(clause, 0, 60);
        }
        x.translate(3, 0, 20);
        x.cast(1, 0, 20);
        return x;
    }

    private static void laterPlans() {
        Boundary.test(40, "Throws `IllegalStateException` if something that is ready is longer than the stamina", () -> {
            SighTreaties x = longAndShort();
            Boundary.due("60 and 60 and 60", x.sessionsByGoing(0, 0), 3);
            Boundary.due("and then 20, with a stamina of 20", Boundary.answer(x, y -> y.sessionsByGoing(1, 0)), 1);
        });
        Boundary.test(41, "Throws `IllegalStateException` if something that is ready is longer than the stamina", () -> {
            SighTreaties x = longAndShort();
            Boundary.due("60 and 60 and 60", x.sessionsByTable(0, 0), 3);
            Boundary.due("and then 20, with a stamina of 20", Boundary.answer(x, y -> y.sessionsByTable(1, 0)), 1);
        });
    }

    /** Where a tongue 3 of state A would be, state B has a stamina that is too small for what A says. */
    private static SighTreaties weakBeside() {
        SighTreaties x = Made.with("0A60;0A60");
        x.translate(0, 0, 40);
        x.translate(1, 0, 40);
        x.cast(1, 0, 20);
        return x;
    }

    private static void noSuchVoice() {
        Boundary.test(40, NO_VOICE, () -> Boundary.refused("tongue 3", BesideBoundaries::weakBeside, Boundary.INDEX,
            x -> x.sessionsByGoing(0, 3)));
        Boundary.test(41, NO_VOICE, () -> Boundary.refused("tongue 3", BesideBoundaries::weakBeside, Boundary.INDEX,
            x -> x.sessionsByTable(0, 3)));
    }

    private static void laterTexts() {
        Boundary.test(18, "or a sigh would be longer than its lips", () -> {
            SighTreaties x = Made.written("0A4~4;1B4~20;2C4~20");
            Boundary.due("too long sighs", Boundary.answer(x, y -> y.load()), Boundary.STATE);
            Made.write(x, "3D10");
            Boundary.due("and then a text without one", Boundary.answer(x, y -> y.load()), 1);
            Boundary.due("its sigh", x.sighOf(0), 0);
        });
        Boundary.test(17, "the length of the buffer if there is none.", () -> {
            SighTreaties x = Made.written("0A60~20;1B6x");
            Boundary.due("a text with an error", x.firstError(), 11);
            Made.write(x, "0A");
            Boundary.due("and then a beginning", x.firstError(), 2);
            Boundary.due("which is no whole text", Boundary.answer(x, y -> y.load()), Boundary.ARGUMENT);
        });
    }
}
