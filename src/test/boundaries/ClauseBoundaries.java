/** The boundaries of promises 1 to 8: a new object, clauses and translations. */
final class ClauseBoundaries {
    private static final String NO_CLAUSE = "Throws `IndexOutOfBoundsException` if there is no such clause";
    private static final String NO_TRANSLATION = "Throws `IndexOutOfBoundsException` if there is no such clause or tongue";
    private static final String NO_LIPS = "Throws `IllegalArgumentException` if lips is out of range";
    private static final String NO_FRAMES = "Throws `IllegalArgumentException` if frames is out of range";
    private static final String TONGUE = "- `tongue`: 0 to 2";
    private static final String UNDOABLE = "Undoable.";

    private ClauseBoundaries() {
    }

    static void tests() {
        newObject();
        addClause();
        addClauseRefused();
        changeLips();
        changeSigh();
        moveClause();
        translate();
        annex();
        annexRefused();
        bringBack();
    }

    private static void newObject() {
        Boundary.test(1, "Creates a treaty without clauses, voices as told above, empty slots and an empty buffer.", () -> {
            Boundary.answers("clauses", Made::empty, 0, x -> x.clauses());
            Boundary.answers("no clause 0", Made::empty, Boundary.INDEX, x -> x.reelOf(0));
            for (int state = 0; state < 5; state++) {
                for (int tongue = 0; tongue < 3; tongue++) {
                    int s = state;
                    int t = tongue;
                    Boundary.answers("stamina", Made::empty, 60 + 10 * t, x -> x.staminaOf(s, t));
                    Boundary.answers("strength", Made::empty, 60 + 10 * t, x -> x.strengthLeft(s, t));
                }
            }
            Boundary.answers("slot 0", Made::empty, Boundary.STATE, Boundary.call(x -> x.goBack(0)));
            Boundary.answers("slot 1", Made::empty, Boundary.STATE, Boundary.call(x -> x.goBack(1)));
            Boundary.answers("saved", Made::empty, 0, x -> x.savedStates());
            Boundary.answers("undo", Made::empty, Boundary.STATE, Boundary.call(x -> x.undo()));
            Boundary.answers("buffer", Made::empty, 0, x -> x.clearBuffer());
            Boundary.answers("the first character", Made::empty, 1, x -> x.append('0'));
            Made.full();
            Boundary.answers("clauses, beside another treaty", Made::empty, 0, x -> x.clauses());
        });
    }

    // ---- promise 2

    private static void addClause() {
        Boundary.test(2, "its reel is not mixed any more in any tongue.", () -> {
            for (int reel = 0; reel < 4; reel++) {
                int r = reel;
                SighTreaties x = Boundary.answers("addClause", Made::signed, 8, y -> y.addClause(r, 4, 60));
                for (int tongue = 0; tongue < 3; tongue++) {
                    for (int other = 0; other < 4; other++) {
                        Boundary.due("mixed " + other, x.isMixed(other, tongue), other != r);
                    }
                    Boundary.due("signatures", x.signaturesOn(r, tongue), 0);
                }
            }
        });
        Boundary.test(2, UNDOABLE, () -> {
            Boundary.saves("addClause", Made::empty, x -> x.addClause(0, 0, 4));
            Boundary.saves("addClause on a mixed reel", Made::mixed, x -> x.addClause(0, 4, 60));
            Boundary.saves("the last one", () -> Made.some(23), x -> x.addClause(3, 4, 60));
        });
        Boundary.test(2, "- `reel`: 0 to 3", () -> {
            Boundary.range(Made::mixed, 0, 3, Boundary.INDEX, (x, reel) -> x.addClause(reel, 0, 10));
            SighTreaties x = Boundary.answers("the last reel", Made::empty, 0, y -> y.addClause(3, 0, 10));
            Boundary.due("its reel", x.reelOf(0), 3);
        });
        Boundary.test(2, "- `state`: 0 to 4: the one that speaks it", () -> {
            Boundary.range(Made::mixed, 0, 4, Boundary.INDEX, (x, state) -> x.addClause(0, state, 10));
            SighTreaties x = Boundary.answers("the last state", Made::empty, 0, y -> y.addClause(0, 4, 10));
            Boundary.due("its state", x.speakerOf(0), 4);
        });
        Boundary.test(2, "- `lips`: 4 to 60: for how many frames lips move", () -> {
            for (int lips = 4; lips <= 60; lips++) {
                int l = lips;
                SighTreaties x = Boundary.answers("lips " + l, Made::empty, 0, y -> y.addClause(0, 0, l));
                Boundary.due("its lips", x.lipsOf(0), l);
            }
        });
        Boundary.test(2, "Returns the number of the clause.", () -> {
            Boundary.answers("the first one", Made::empty, 0, x -> x.addClause(0, 0, 4));
            Boundary.answers("the last one", () -> Made.some(23), 23, x -> x.addClause(0, 0, 4));
            Boundary.answers("in place of an undone one", Made::twoAndOneUndone, 2, x -> x.addClause(0, 0, 4));
        });
    }

    private static void addClauseRefused() {
        Boundary.test(2, "Throws `IndexOutOfBoundsException` if there is no such reel or state", () -> {
            Boundary.noSuchReel(Made::mixed, (x, reel) -> x.addClause(reel, 4, 60));
            Boundary.noSuchState(Made::mixed, (x, state) -> x.addClause(3, state, 4));
            Boundary.refused("neither", Made::mixed, Boundary.INDEX, x -> x.addClause(4, 5, 10));
        });
        Boundary.test(2, NO_LIPS, () ->
            Boundary.range(Made::mixed, 4, 60, Boundary.ARGUMENT, (x, lips) -> x.addClause(0, 0, lips)));
        Boundary.test(2, "Throws `IllegalStateException` if there are 24 clauses", () -> {
            SighTreaties x = Boundary.answers("the 24th", () -> Made.some(23), 23, y -> y.addClause(0, 0, 4));
            Boundary.due("clauses", x.clauses(), 24);
            Boundary.due("the 25th", Boundary.answer(x, y -> y.addClause(0, 0, 4)), Boundary.STATE);
            Boundary.refused("a 25th", Made::full, Boundary.STATE, y -> y.addClause(0, 0, 4));
            x.undo();
            Boundary.due("after undo", x.addClause(3, 4, 60), 23);
        });
    }

    // ---- promise 3

    private static void changeLips() {
        Boundary.test(3, UNDOABLE, () -> Boundary.saves("changeLips", Made::translated, x -> x.changeLips(0, 60)));
        Boundary.test(3, "- `lips`: 4 to 60", () -> {
            for (int lips = 4; lips <= 60; lips++) {
                int l = lips;
                SighTreaties x = Boundary.answers("lips " + l, Made::one, 60, y -> y.changeLips(0, l));
                Boundary.due("its lips", x.lipsOf(0), l);
            }
        });
        Boundary.test(3, "Returns how many it were.", () -> {
            SighTreaties x = Boundary.answers("the most", Made::one, 60, y -> y.changeLips(0, 4));
            Boundary.due("the least", x.changeLips(0, 60), 4);
            Boundary.due("the same", x.changeLips(0, 60), 60);
        });
        Boundary.test(3, NO_CLAUSE, () -> Boundary.noSuchClause(Made::translated, (x, clause) -> x.changeLips(clause, 10)));
        Boundary.test(3, NO_LIPS, () ->
            Boundary.range(Made::one, 4, 60, Boundary.ARGUMENT, (x, lips) -> x.changeLips(0, lips)));
        Boundary.test(3, "Throws `IllegalStateException` if it is recorded in some tongue, or its sigh is longer", () -> {
            for (int tongue = 0; tongue < 3; tongue++) {
                int t = tongue;
                Boundary.refused("recorded in " + t, () -> recordedIn(t), Boundary.STATE, x -> x.changeLips(0, 59));
                Boundary.refused("the same, recorded", () -> recordedIn(t), Boundary.STATE, x -> x.changeLips(0, 60));
                Boundary.answers("another clause", () -> recordedIn(t), 10, x -> x.changeLips(1, 11));
                Boundary.answers("wiped in " + t, () -> wipedIn(t), 60, x -> x.changeLips(0, 59));
            }
            Boundary.answers("as long as the sigh", () -> Made.with("0A60~20"), 60, x -> x.changeLips(0, 20));
            Boundary.refused("one less than the sigh", () -> Made.with("0A60~20"), Boundary.STATE,
                x -> x.changeLips(0, 19));
            Boundary.answers("4, and a sigh of 4", () -> Made.with("0A5~4"), 5, x -> x.changeLips(0, 4));
            Boundary.refused("4, and a sigh of 5", () -> Made.with("0A5~5"), Boundary.STATE, x -> x.changeLips(0, 4));
        });
    }

    /** Clause 0 with lips of 60 and no sigh, recorded in this tongue with 10 frames; clause 1 with lips of 10. */
    private static SighTreaties recordedIn(int tongue) {
        SighTreaties x = Made.with("0A60;1B10");
        for (int t = 0; t < 3; t++) {
            x.translate(0, t, 10);
        }
        x.record(0, tongue);
        return x;
    }

    private static SighTreaties wipedIn(int tongue) {
        SighTreaties x = recordedIn(tongue);
        x.wipe(0, tongue);
        return x;
    }

    // ---- promise 4

    private static void changeSigh() {
        Boundary.test(4, UNDOABLE, () -> Boundary.saves("changeSigh", Made::translated, x -> x.changeSigh(0, 20)));
        Boundary.test(4, "- `frames`: 0 to 20, 0: none", () -> {
            for (int frames = 0; frames <= 20; frames++) {
                int f = frames;
                SighTreaties x = Boundary.answers("a sigh of " + f, () -> Made.with("0A60~7"), 7, y -> y.changeSigh(0, f));
                Boundary.due("its sigh", x.sighOf(0), f);
            }
        });
        Boundary.test(4, "Returns the frames of the sigh before.", () -> {
            SighTreaties x = Boundary.answers("none", Made::one, 0, y -> y.changeSigh(0, 20));
            Boundary.due("the most", x.changeSigh(0, 1), 20);
            Boundary.due("the least", x.changeSigh(0, 1), 1);
            Boundary.due("the same", x.changeSigh(0, 0), 1);
            Boundary.due("none again", x.changeSigh(0, 0), 0);
        });
        Boundary.test(4, NO_CLAUSE, () -> Boundary.noSuchClause(Made::translated, (x, clause) -> x.changeSigh(clause, 1)));
        Boundary.test(4, NO_FRAMES, () ->
            Boundary.range(Made::one, 0, 20, Boundary.ARGUMENT, (x, frames) -> x.changeSigh(0, frames)));
        Boundary.test(4, "Throws `IllegalStateException` if it is recorded in some tongue, or the sigh would be longer than "
            + "its lips", () -> {
                for (int tongue = 0; tongue < 3; tongue++) {
                    int t = tongue;
                    Boundary.refused("recorded in " + t, () -> recordedIn(t), Boundary.STATE, x -> x.changeSigh(0, 1));
                    Boundary.refused("the same, recorded", () -> recordedIn(t), Boundary.STATE, x -> x.changeSigh(0, 0));
                    Boundary.answers("another clause", () -> recordedIn(t), 0, x -> x.changeSigh(1, 10));
                    Boundary.answers("wiped in " + t, () -> wipedIn(t), 0, x -> x.changeSigh(0, 20));
                }
                for (int lips = 4; lips < 20; lips++) {
                    int l = lips;
                    Boundary.answers("as long as lips", () -> Made.with("0A" + l), 0, x -> x.changeSigh(0, l));
                    Boundary.refused("longer by 1", () -> Made.with("0A" + l), Boundary.STATE,
                        x -> x.changeSigh(0, l + 1));
                }
                Boundary.answers("lips of 20", () -> Made.with("0A20"), 0, x -> x.changeSigh(0, 20));
            });
    }

    // ---- promise 5

    private static void moveClause() {
        Boundary.test(5, "which is not mixed any more in any tongue.", () -> {
            SighTreaties x = Boundary.answers("moveClause", Made::mixed, 2, y -> y.moveClause(2, 0));
            for (int tongue = 0; tongue < 3; tongue++) {
                Boundary.due("mixed", x.isMixed(0, tongue), false);
            }
            SighTreaties z = Boundary.answers("to another reel", Made::mixed, 2, y -> y.moveClause(2, 3));
            for (int tongue = 0; tongue < 3; tongue++) {
                Boundary.due("mixed beside", z.isMixed(0, tongue), true);
            }
        });
        Boundary.test(5, UNDOABLE, () -> {
            Boundary.saves("moveClause", Made::mixed, x -> x.moveClause(2, 0));
            Boundary.saves("moveClause", Made::mixed, x -> x.moveClause(2, 1));
        });
        Boundary.test(5, "- `reel`: 0 to 3", () -> {
            for (int reel = 0; reel < 4; reel++) {
                int r = reel;
                int from = (r + 1) % 4;
                SighTreaties x = Boundary.answers("to " + r, () -> Made.with(from + "A9"), from, y -> y.moveClause(0, r));
                Boundary.due("its reel", x.reelOf(0), r);
            }
        });
        Boundary.test(5, "Returns the reel before.", () -> {
            SighTreaties x = Boundary.answers("the first one", Made::one, 0, y -> y.moveClause(0, 3));
            Boundary.due("the last one", x.moveClause(0, 0), 3);
        });
        Boundary.test(5, "Throws `IndexOutOfBoundsException` if there is no such clause or reel", () -> {
            Boundary.noSuchClause(Made::translated, (x, clause) -> x.moveClause(clause, 3));
            Boundary.noSuchClause(Made::translated, (x, clause) -> x.moveClause(clause, 0));
            for (int reel : new int[] {-1, 4, Integer.MIN_VALUE, Integer.MAX_VALUE}) {
                Boundary.refused("reel " + reel, Made::translated, Boundary.INDEX, x -> x.moveClause(0, reel));
                Boundary.refused("recorded, reel " + reel, Made::recorded, Boundary.INDEX, x -> x.moveClause(0, reel));
            }
        });
        Boundary.test(5, "Throws `IllegalStateException` if it is recorded in some tongue, or is in this reel already", () -> {
            for (int tongue = 0; tongue < 3; tongue++) {
                int t = tongue;
                Boundary.refused("recorded in " + t, () -> recordedIn(t), Boundary.STATE, x -> x.moveClause(0, 1));
                Boundary.answers("another clause", () -> recordedIn(t), 1, x -> x.moveClause(1, 0));
                Boundary.answers("wiped in " + t, () -> wipedIn(t), 0, x -> x.moveClause(0, 1));
            }
            for (int reel = 0; reel < 4; reel++) {
                int r = reel;
                Boundary.refused("in it already", () -> Made.with(r + "A9"), Boundary.STATE, x -> x.moveClause(0, r));
            }
        });
    }

    // ---- promise 6

    private static void translate() {
        Boundary.test(6, "Translates a clause, in place of a translation that there was; what was annexed of that is gone.",
            () -> {
                SighTreaties x = Boundary.answers("the same frames", Made::translated, -4, y -> y.translate(0, 1, 20));
                Boundary.due("frames", x.framesOf(0, 1), 20);
                Boundary.due("annexed", x.annexedOf(0, 1), 0);
                Boundary.due("the annex", x.annexOf(1), 10);
                Boundary.due("nothing to bring back", Boundary.answer(x, y -> y.bringBack(0, 1)), Boundary.STATE);
                Boundary.due("annexed in another tongue", x.annexedOf(0, 0), 5);
                Boundary.due("annexed of another clause", x.annexedOf(1, 1), 5);
            });
        Boundary.test(6, UNDOABLE, () -> {
            Boundary.saves("translate", Made::one, x -> x.translate(0, 0, 1));
            Boundary.saves("translate, in place of one", Made::translated, x -> x.translate(0, 0, 60));
        });
        Boundary.test(6, TONGUE, () ->
            Boundary.range(Made::translated, 0, 2, Boundary.INDEX, (x, tongue) -> x.translate(2, tongue, 60)));
        Boundary.test(6, "- `frames`: 1 to 60", () -> {
            for (int frames = 1; frames <= 60; frames++) {
                int f = frames;
                SighTreaties x = Boundary.answers("frames " + f, Made::one, 60 - f, y -> y.translate(0, 0, f));
                Boundary.due("its frames", x.framesOf(0, 0), f);
            }
        });
        Boundary.test(6, "Returns by how many frames the lips are longer than the translation and the sigh, together; "
            + "below 0 if they are shorter.", () -> {
                Boundary.answers("longer by 1", () -> Made.with("0A20~5"), 1, x -> x.translate(0, 0, 14));
                Boundary.answers("as long", () -> Made.with("0A20~5"), 0, x -> x.translate(0, 0, 15));
                Boundary.answers("shorter by 1", () -> Made.with("0A20~5"), -1, x -> x.translate(0, 0, 16));
                Boundary.answers("the shortest", () -> Made.with("0A4~4"), -60, x -> x.translate(0, 0, 60));
                Boundary.answers("the longest", () -> Made.with("0A60"), 59, x -> x.translate(0, 0, 1));
            });
        Boundary.test(6, NO_TRANSLATION, () ->
            Boundary.noSuchClauseOrTongue(Made::translated, (x, clause, tongue) -> x.translate(clause, tongue, 5)));
        Boundary.test(6, NO_FRAMES, () ->
            Boundary.range(Made::one, 1, 60, Boundary.ARGUMENT, (x, frames) -> x.translate(0, 0, frames)));
        Boundary.test(6, "Throws `IllegalStateException` if the clause is recorded in this tongue", () -> {
            for (int tongue = 0; tongue < 3; tongue++) {
                int t = tongue;
                Boundary.refused("recorded", () -> recordedIn(t), Boundary.STATE, x -> x.translate(0, t, 10));
                Boundary.answers("another tongue", () -> recordedIn(t), 50, x -> x.translate(0, (t + 1) % 3, 10));
                Boundary.answers("one more", () -> recordedIn(t), 50, x -> x.translate(0, (t + 2) % 3, 10));
                Boundary.answers("another clause", () -> recordedIn(t), 0, x -> x.translate(1, t, 10));
                Boundary.answers("wiped", () -> wipedIn(t), 50, x -> x.translate(0, t, 10));
            }
        });
    }

    // ---- promise 7

    private static SighTreaties threeOf60() {
        SighTreaties x = Made.with("0A60;1B60;2C60");
        for (int clause = 0; clause < 3; clause++) {
            for (int tongue = 0; tongue < 3; tongue++) {
                x.translate(clause, tongue, 60);
            }
        }
        return x;
    }

    private static SighTreaties annexedTo99() {
        SighTreaties x = threeOf60();
        x.annex(0, 1, 59);
        x.annex(1, 1, 40);
        return x;
    }

    private static void annex() {
        Boundary.test(7, "it is shorter by them.", () -> {
            SighTreaties x = Boundary.answers("1", Made::translated, 16, y -> y.annex(0, 1, 1));
            Boundary.due("frames", x.framesOf(0, 1), 14);
            Boundary.due("annexed", x.annexedOf(0, 1), 6);
            Boundary.due("all but 1", x.annex(0, 1, 13), 29);
            Boundary.due("frames", x.framesOf(0, 1), 1);
        });
        Boundary.test(7, UNDOABLE, () -> Boundary.saves("annex", Made::translated, x -> x.annex(2, 2, 14)));
        Boundary.test(7, TONGUE, () ->
            Boundary.range(Made::translated, 0, 2, Boundary.INDEX, (x, tongue) -> x.annex(2, tongue, 14)));
        Boundary.test(7, "- `frames`: 1 to 59", () -> {
            for (int frames = 1; frames <= 59; frames++) {
                int f = frames;
                SighTreaties x = Boundary.answers(f + " at once", ClauseBoundaries::threeOf60, f, y -> y.annex(0, 0, f));
                Boundary.due("frames", x.framesOf(0, 0), 60 - f);
            }
        });
        Boundary.test(7, "Returns the frames of the annex of the tongue then.", () -> {
            Boundary.answers("of all translations", Made::translated, 29, x -> x.annex(0, 2, 14));
            Boundary.answers("the least", ClauseBoundaries::threeOf60, 1, x -> x.annex(0, 2, 1));
            Boundary.answers("not of the other tongues", ClauseBoundaries::annexedTo99, 1, x -> x.annex(0, 2, 1));
            SighTreaties x = threeOf60();
            x.annex(0, 1, 59);
            Boundary.due("the most", x.annex(2, 1, 40), 99);
        });
    }

    private static void annexRefused() {
        Boundary.test(7, NO_TRANSLATION, () ->
            Boundary.noSuchClauseOrTongue(Made::translated, (x, clause, tongue) -> x.annex(clause, tongue, 1)));
        Boundary.test(7, NO_FRAMES, () ->
            Boundary.range(ClauseBoundaries::threeOf60, 1, 59, Boundary.ARGUMENT, (x, frames) -> x.annex(0, 0, frames)));
        Boundary.test(7, "Throws `IllegalStateException` if the clause is not translated, is recorded, would have less than "
            + "1 frame, or the annex would have more than 99", () -> {
                Boundary.refused("not translated", Made::one, Boundary.STATE, x -> x.annex(0, 0, 1));
                for (int tongue = 0; tongue < 3; tongue++) {
                    int t = tongue;
                    Boundary.refused("recorded", () -> recordedIn(t), Boundary.STATE, x -> x.annex(0, t, 1));
                    Boundary.answers("in another one", () -> recordedIn(t), 1, x -> x.annex(0, (t + 1) % 3, 1));
                    Boundary.answers("wiped", () -> wipedIn(t), 9, x -> x.annex(0, t, 9));
                }
                Boundary.answers("1 frame is left", Made::translated, 29, x -> x.annex(0, 0, 14));
                Boundary.refused("none is left", Made::translated, Boundary.STATE, x -> x.annex(0, 0, 15));
                Boundary.refused("less than none", Made::translated, Boundary.STATE, x -> x.annex(0, 0, 59));
                annexBeyond99();
            });
    }

    private static void annexBeyond99() {
        Boundary.refused("100", ClauseBoundaries::annexedTo99, Boundary.STATE, x -> x.annex(2, 1, 1));
        Boundary.refused("of the same clause", ClauseBoundaries::annexedTo99, Boundary.STATE, x -> x.annex(1, 1, 1));
        Boundary.answers("another tongue", ClauseBoundaries::annexedTo99, 59, x -> x.annex(2, 0, 59));
        SighTreaties x = annexedTo99();
        x.translate(0, 1, 60);
        Boundary.due("59 are gone", x.annex(2, 1, 59), 99);
        SighTreaties y = annexedTo99();
        y.bringBack(1, 1);
        Boundary.due("40 are brought back", y.annex(2, 1, 40), 99);
        SighTreaties z = annexedTo99();
        z.record(0, 1);
        Boundary.due("recorded", Boundary.answer(z, t -> t.annex(2, 1, 1)), Boundary.STATE);
    }

    // ---- promise 8

    private static void bringBack() {
        Boundary.test(8, "Brings all that was annexed of a translation back into it.", () -> {
            SighTreaties x = Boundary.answers("59 of 60", ClauseBoundaries::annexedTo99, 59, y -> y.bringBack(0, 1));
            Boundary.due("frames", x.framesOf(0, 1), 60);
            Boundary.due("annexed", x.annexedOf(0, 1), 0);
            Boundary.due("the annex", x.annexOf(1), 40);
        });
        Boundary.test(8, UNDOABLE, () -> Boundary.saves("bringBack", Made::translated, x -> x.bringBack(2, 2)));
        Boundary.test(8, TONGUE, () ->
            Boundary.range(Made::translated, 0, 2, Boundary.INDEX, (x, tongue) -> x.bringBack(2, tongue)));
        Boundary.test(8, "Returns the frames that come back.", () -> {
            SighTreaties x = threeOf60();
            x.annex(0, 0, 1);
            Boundary.due("the least", x.bringBack(0, 0), 1);
            x.annex(0, 0, 3);
            x.annex(0, 0, 56);
            Boundary.due("the most, of two annexes", x.bringBack(0, 0), 59);
        });
        Boundary.test(8, NO_TRANSLATION, () ->
            Boundary.noSuchClauseOrTongue(Made::translated, (x, clause, tongue) -> x.bringBack(clause, tongue)));
        Boundary.test(8, "Throws `IllegalStateException` if nothing of it is annexed, or the clause is recorded in this "
            + "tongue", () -> {
                Boundary.refused("not translated", Made::one, Boundary.STATE, x -> x.bringBack(0, 0));
                Boundary.refused("nothing annexed", ClauseBoundaries::annexedTo99, Boundary.STATE, x -> x.bringBack(2, 1));
                Boundary.refused("not in this tongue", ClauseBoundaries::annexedTo99, Boundary.STATE,
                    x -> x.bringBack(0, 0));
                Boundary.refused("recorded", Made::recorded, Boundary.STATE, x -> x.bringBack(0, 2));
                SighTreaties x = Boundary.answers("brought back", Made::translated, 5, y -> y.bringBack(0, 2));
                Boundary.due("once more", Boundary.answer(x, y -> y.bringBack(0, 2)), Boundary.STATE);
                SighTreaties z = translatedAndRecordedIn1();
                Boundary.due("recorded in another tongue", z.bringBack(0, 2), 5);
                Boundary.due("in this one", Boundary.answer(z, y -> y.bringBack(0, 1)), Boundary.STATE);
                z.wipe(0, 1);
                Boundary.due("wiped", z.bringBack(0, 1), 5);
            });
    }

    private static SighTreaties translatedAndRecordedIn1() {
        SighTreaties x = Made.translated();
        x.record(0, 1);
        return x;
    }
}
