import java.util.List;

/** The boundaries of promises 19 to 22: snapshots and undo. */
final class SnapshotBoundaries {
    private static final String SLOT = "- `slot`: 0 or 1";
    private static final String NO_SLOT = "Throws `IllegalArgumentException` if slot is out of range";

    private SnapshotBoundaries() {
    }

    static void tests() {
        keep();
        goBack();
        undo();
        savedStates();
    }

    private static SighTreaties keptBoth() {
        SighTreaties x = Made.one();
        x.keep(0);
        x.nextSession();
        x.keep(1);
        x.nextSession();
        return x;
    }

    private static Object keepAnd(SighTreaties x, int slot) {
        x.keep(slot);
        return 0;
    }

    private static Object back(SighTreaties x, int slot) {
        x.goBack(slot);
        return x.session();
    }

    private static void keep() {
        Boundary.test(19, "Takes a snapshot, in place of the one in the slot.", () -> {
            for (int slot = 0; slot < 2; slot++) {
                SighTreaties x = keptBoth();
                x.keep(slot);
                x.nextSession();
                Boundary.due("the new one", back(x, slot), 2);
                Boundary.due("the other one stays", back(x, 1 - slot), slot == 0 ? 1 : 0);
                x.keep(slot);
                Boundary.due("the newest one", back(x, slot), slot == 0 ? 1 : 0);
            }
            Boundary.due("nothing is left of the one before", keptOfLess(true), keptOfLess(false));
        });
        Boundary.test(19, SLOT, () -> {
            Boundary.range(Made::one, 0, 1, Boundary.ARGUMENT, SnapshotBoundaries::keepAnd);
            for (int slot = 0; slot < 2; slot++) {
                int s = slot;
                SighTreaties x = Boundary.answers("keep", Made::empty, 0, y -> keepAnd(y, s));
                Boundary.due("the same slot", back(x, s), 0);
                Boundary.due("the other one", Boundary.answer(x, y -> back(y, 1 - s)), Boundary.STATE);
                Boundary.due("is not undoable", x.savedStates(), 1);
            }
        });
        Boundary.test(19, NO_SLOT, () -> {
            Boundary.range(Made::empty, 0, 1, Boundary.ARGUMENT, SnapshotBoundaries::keepAnd);
            Boundary.range(SnapshotBoundaries::keptBoth, 0, 1, Boundary.ARGUMENT, SnapshotBoundaries::keepAnd);
        });
    }

    /** Told of a snapshot of an earlier state, in place of a later one or not. */
    private static long keptOfLess(boolean inPlace) {
        SighTreaties x = Made.recorded();
        if (inPlace) {
            x.keep(0);
        }
        for (int i = 0; i < 6; i++) {
            x.undo();
        }
        x.keep(0);
        x.nextSession();
        x.goBack(0);
        return x.digest();
    }

    private static void goBack() {
        Boundary.test(20, "Goes back to a snapshot, which stays.", () -> {
            SighTreaties x = keptBoth();
            for (int i = 0; i < 9; i++) {
                Boundary.due("slot 0", back(x, 0), 0);
                x.addClause(0, 0, 10);
                x.changeLips(0, 20);
                Boundary.due("slot 1", back(x, 1), 1);
                Boundary.due("as it was", x.clauses(), 1);
                Boundary.due("as they were", x.lipsOf(0), 60);
            }
            SighTreaties y = otherClause();
            y.goBack(0);
            dueClause(y, "[3, 4, 60, 20, true, 9]");
        });
        Boundary.test(20, "Undoable.", () -> {
            Boundary.saves("goBack(1)", SnapshotBoundaries::keptBoth, x -> back(x, 1));
            SighTreaties x = keptBoth();
            long before = x.digest();
            x.goBack(1);
            x.undo();
            Boundary.due("undone", x.digest(), before);
            Boundary.due("a snapshot of less clauses", clausesAfterGoingBackAndUndo(), 24);
            SighTreaties y = otherClause();
            y.goBack(0);
            y.undo();
            dueClause(y, "[1, 2, 44, 0, false, 0]");
        });
        Boundary.test(20, SLOT, () ->
            Boundary.range(SnapshotBoundaries::keptBoth, 0, 1, Boundary.ARGUMENT, SnapshotBoundaries::back));
        Boundary.test(20, NO_SLOT, () -> {
            for (int slot : new int[] {-1, 2, Integer.MIN_VALUE, Integer.MAX_VALUE}) {
                Boundary.refused("slot " + slot, Made::empty, Boundary.ARGUMENT, x -> back(x, slot));
                Boundary.refused("slot " + slot, SnapshotBoundaries::keptBoth, Boundary.ARGUMENT, x -> back(x, slot));
            }
        });
        Boundary.test(20, "Throws `IllegalStateException` if there is no snapshot in it", () -> {
            Boundary.refused("slot 0 of none", Made::empty, Boundary.STATE, x -> back(x, 0));
            Boundary.refused("slot 1 of none", Made::empty, Boundary.STATE, x -> back(x, 1));
            Boundary.refused("slot 0, kept in 1", Made::one, Boundary.STATE, x -> back(x, 0));
            SighTreaties x = Made.empty();
            x.keep(0);
            Boundary.due("slot 1, kept in 0", Boundary.answer(x, y -> back(y, 1)), Boundary.STATE);
            Boundary.due("a snapshot of nothing", back(x, 0), 0);
        });
    }

    /** In slot 0 a clause that was undone; another one stands in its place. */
    private static SighTreaties otherClause() {
        SighTreaties x = Made.empty();
        x.addClause(3, 4, 60);
        x.changeSigh(0, 20);
        x.translate(0, 2, 40);
        x.annex(0, 2, 9);
        x.record(0, 2);
        x.keep(0);
        for (int i = 0; i < 5; i++) {
            x.undo();
        }
        x.addClause(1, 2, 44);
        return x;
    }

    private static void dueClause(SighTreaties x, String want) {
        String got = List.of(x.reelOf(0), x.speakerOf(0), x.lipsOf(0), x.sighOf(0), x.isRecorded(0, 2),
            x.annexedOf(0, 2)).toString();
        Boundary.due("reel, state, lips, sigh, recorded, annexed", got, want);
    }

    private static int clausesAfterGoingBackAndUndo() {
        SighTreaties x = Made.empty();
        x.keep(0);
        for (int i = 0; i < 24; i++) {
            x.addClause(0, 0, 10);
        }
        x.goBack(0);
        x.undo();
        return x.clauses();
    }

    private static void undo() {
        Boundary.test(21, "Restores the latest saved state, and drops it.", () -> {
            SighTreaties x = Made.empty();
            long[] digests = new long[7];
            for (int i = 0; i <= 6; i++) {
                digests[i] = x.digest();
                x.addClause(i % 4, i % 5, 10 + i);
            }
            for (int i = 6; i >= 1; i--) {
                x.undo();
                Boundary.due("saved states", x.savedStates(), i - 1);
                Boundary.due("clauses", x.clauses(), i);
                Boundary.due("lips", x.lipsOf(i - 1), 9 + i);
            }
            Boundary.due("the oldest one was dropped", Boundary.answer(x, Boundary.call(y -> y.undo())), Boundary.STATE);
            SighTreaties z = Made.empty();
            for (int i = 0; i < 6; i++) {
                z.addClause(i % 4, i % 5, 10 + i);
            }
            for (int i = 5; i >= 0; i--) {
                z.undo();
                Boundary.due("all as it was", z.digest(), digests[i]);
            }
        });
        Boundary.test(21, "Throws `IllegalStateException` if there is none", () -> {
            Boundary.refused("at first", Made::empty, Boundary.STATE, Boundary.call(x -> x.undo()));
            Boundary.refused("with a buffer", () -> Made.written("0A4"), Boundary.STATE, Boundary.call(x -> x.undo()));
            SighTreaties x = Made.empty();
            x.keep(0);
            x.keep(1);
            Boundary.due("after keep", Boundary.answer(x, Boundary.call(y -> y.undo())), Boundary.STATE);
            x.nextSession();
            Boundary.due("one", Boundary.answer(x, Boundary.call(y -> y.undo())), "nothing");
            Boundary.due("undone", Boundary.answer(x, Boundary.call(y -> y.undo())), Boundary.STATE);
            Boundary.answer(x, y -> y.wipe(0, 0));
            Boundary.due("after a refused call", Boundary.answer(x, Boundary.call(y -> y.undo())), Boundary.STATE);
        });
    }

    private static void savedStates() {
        Boundary.test(22, "Returns 0 to 6.", () -> {
            Boundary.answers("at first", Made::empty, 0, x -> x.savedStates());
            SighTreaties x = Made.empty();
            for (int calls = 1; calls <= 20; calls++) {
                x.nextSession();
                Boundary.due("saved of " + calls, x.savedStates(), Math.min(calls, 6));
            }
            for (int saved = 5; saved >= 0; saved--) {
                x.undo();
                Boundary.due("undone", x.savedStates(), saved);
            }
            Boundary.answer(x, Boundary.call(y -> y.undo()));
            Boundary.due("not below 0", x.savedStates(), 0);
            x.nextSession();
            Boundary.due("1 again", x.savedStates(), 1);
        });
    }
}
