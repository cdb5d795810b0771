/** The boundaries of promises 23 to 41, and of 60 and 61: what is told of clauses and of voices. */
final class QuestionBoundaries {
    private static final String NO_CLAUSE = "Throws `IndexOutOfBoundsException` if there is no such clause";
    private static final String NO_TRANSLATION = "Throws `IndexOutOfBoundsException` if there is no such clause or tongue";
    private static final String NO_VOICE = "Throws `IndexOutOfBoundsException` if there is no such state or tongue";
    private static final String UNTRANSLATED = "Throws `IllegalStateException` if it is not translated";
    private static final String TOO_LONG = "Throws `IllegalStateException` if something that is ready is longer than the "
        + "stamina";
    private static final String STATE = "- `state`: 0 to 4";
    private static final String TONGUE = "- `tongue`: 0 to 2";

    private QuestionBoundaries() {
    }

    static void tests() {
        clauses();
        ofClauses();
        ofTranslations();
        frames();
        recordings();
        lengths();
        reasons();
        voices();
        sessionsByGoing();
        sessionsOfMany();
        sessionsByTable();
        leastAnnex();
        longestSigh();
    }

    private static void ofClause(int promise, Boundary.CallOfOne call) {
        Boundary.test(promise, NO_CLAUSE, () -> Boundary.noSuchClause(Made::translated, call));
    }

    /** Lips of 20, a sigh of 5; translated into tongue 1 alone, with these frames. */
    private static SighTreaties withFrames(int frames) {
        return withFrames("0A20~5", frames);
    }

    private static SighTreaties withFrames(String text, int frames) {
        SighTreaties x = Made.with(text);
        x.translate(0, 1, frames);
        return x;
    }

    // ---- promises 23 to 27

    private static void clauses() {
        Boundary.test(23, "Returns 0 to 24.", () -> {
            Boundary.answers("none", Made::empty, 0, x -> x.clauses());
            Boundary.answers("all", Made::full, 24, x -> x.clauses());
            for (int clauses = 1; clauses < 24; clauses++) {
                int c = clauses;
                Boundary.answers("some", () -> Made.some(c), c, x -> x.clauses());
            }
            SighTreaties x = Made.full();
            Boundary.answer(x, y -> y.addClause(0, 0, 10));
            Boundary.due("not 25", x.clauses(), 24);
        });
    }

    private static void ofClauses() {
        Boundary.test(24, "Returns the reel.", () -> {
            for (int reel = 0; reel < 4; reel++) {
                int r = reel;
                Boundary.answers("reel", () -> Made.with(r + "A4"), r, x -> x.reelOf(0));
                Boundary.answers("of the last clause", Made::full, 3, x -> x.reelOf(23));
            }
        });
        ofClause(24, (x, clause) -> x.reelOf(clause));
        Boundary.test(25, "Returns the state.", () -> {
            for (int state = 0; state < 5; state++) {
                char letter = (char) ('A' + state);
                Boundary.answers("state", () -> Made.with("3" + letter + "4"), state, x -> x.speakerOf(0));
                Boundary.answers("of the last clause", Made::full, 3, x -> x.speakerOf(23));
            }
        });
        ofClause(25, (x, clause) -> x.speakerOf(clause));
        Boundary.test(26, "Returns the frames.", () -> {
            Boundary.answers("the least", () -> Made.with("0A60;0A4"), 4, x -> x.lipsOf(1));
            Boundary.answers("the most", () -> Made.with("0A60;0A4"), 60, x -> x.lipsOf(0));
            Boundary.answers("of the last clause", Made::full, 33, x -> x.lipsOf(23));
        });
        ofClause(26, (x, clause) -> x.lipsOf(clause));
        Boundary.test(27, "Returns its frames, 0 without one.", () -> {
            Boundary.answers("without one", () -> Made.with("0A60~20;0A60;0A60~1"), 0, x -> x.sighOf(1));
            Boundary.answers("the least", () -> Made.with("0A60~20;0A60;0A60~1"), 1, x -> x.sighOf(2));
            Boundary.answers("the most", () -> Made.with("0A60~20;0A60;0A60~1"), 20, x -> x.sighOf(0));
            SighTreaties x = Made.with("0A60~20");
            x.changeSigh(0, 0);
            Boundary.due("none any more", x.sighOf(0), 0);
        });
        ofClause(27, (x, clause) -> x.sighOf(clause));
    }

    // ---- promises 28 to 36

    /** Of all that is asked of a clause in a tongue: the tongues that there are, and what there is not. */
    private static void ofTranslation(int promise, Boundary.CallOfTwo call) {
        Boundary.test(promise, TONGUE, () ->
            Boundary.range(Made::recorded, 0, 2, Boundary.INDEX, (x, tongue) -> call.on(x, 2, tongue)));
        Boundary.test(promise, NO_TRANSLATION, () -> Boundary.noSuchClauseOrTongue(Made::recorded, call));
    }

    private static void untranslated(int promise, String sentence, Boundary.CallOfTwo call) {
        Boundary.test(promise, sentence, () -> {
            Boundary.refused("in no tongue", Made::one, Boundary.STATE, x -> call.on(x, 0, 0));
            Boundary.refused("only in tongue 1", () -> withFrames(9), Boundary.STATE, x -> call.on(x, 0, 0));
            Boundary.refused("only in tongue 1", () -> withFrames(9), Boundary.STATE, x -> call.on(x, 0, 2));
            Boundary.refused("the last of 24", Made::full, Boundary.STATE, x -> call.on(x, 23, 2));
            SighTreaties x = withFrames(9);
            Boundary.due("in tongue 1", Boundary.answer(x, y -> call.on(y, 0, 1)).equals(Boundary.STATE), false);
            x.undo();
            Boundary.due("undone", Boundary.answer(x, y -> call.on(y, 0, 1)), Boundary.STATE);
        });
    }

    private static void ofTranslations() {
        ofTranslation(28, (x, clause, tongue) -> x.isTranslated(clause, tongue));
        ofTranslation(29, (x, clause, tongue) -> x.framesOf(clause, tongue));
        ofTranslation(30, (x, clause, tongue) -> x.annexedOf(clause, tongue));
        ofTranslation(31, (x, clause, tongue) -> x.isRecorded(clause, tongue));
        ofTranslation(32, (x, clause, tongue) -> x.sessionOf(clause, tongue));
        ofTranslation(33, (x, clause, tongue) -> x.roomFor(clause, tongue));
        ofTranslation(34, (x, clause, tongue) -> x.fits(clause, tongue));
        ofTranslation(35, (x, clause, tongue) -> x.hundredthsOf(clause, tongue));
        ofTranslation(36, (x, clause, tongue) -> x.reasonAgainst(clause, tongue));
        untranslated(29, UNTRANSLATED, (x, clause, tongue) -> x.framesOf(clause, tongue));
        untranslated(33, UNTRANSLATED, (x, clause, tongue) -> x.roomFor(clause, tongue));
        untranslated(35, UNTRANSLATED, (x, clause, tongue) -> x.hundredthsOf(clause, tongue));
    }

    private static void frames() {
        Boundary.test(28, "Returns true if so.", () -> {
            Boundary.answers("with 1 frame", () -> withFrames(1), true, x -> x.isTranslated(0, 1));
            Boundary.answers("another tongue", () -> withFrames(1), false, x -> x.isTranslated(0, 0));
            Boundary.answers("another tongue", () -> withFrames(1), false, x -> x.isTranslated(0, 2));
            Boundary.answers("too long to fit", () -> withFrames(60), true, x -> x.isTranslated(0, 1));
            Boundary.answers("not at all", Made::full, false, x -> x.isTranslated(23, 2));
        });
        Boundary.test(29, "Returns the frames of a translation, without what is annexed.", () -> {
            Boundary.answers("the least", () -> withFrames(1), 1, x -> x.framesOf(0, 1));
            SighTreaties x = Boundary.answers("the most", () -> withFrames(60), 60, y -> y.framesOf(0, 1));
            x.annex(0, 1, 59);
            Boundary.due("all but 1 annexed", x.framesOf(0, 1), 1);
            x.bringBack(0, 1);
            Boundary.due("brought back", x.framesOf(0, 1), 60);
        });
        Boundary.test(30, "Returns the frames, 0 if it is not translated.", () -> {
            Boundary.answers("not translated", Made::one, 0, x -> x.annexedOf(0, 0));
            Boundary.answers("only in tongue 1", () -> withFrames(60), 0, x -> x.annexedOf(0, 2));
            SighTreaties x = Boundary.answers("translated", () -> withFrames(60), 0, y -> y.annexedOf(0, 1));
            x.annex(0, 1, 59);
            Boundary.due("the most", x.annexedOf(0, 1), 59);
            Boundary.answers("recorded", Made::recorded, 5, y -> y.annexedOf(0, 1));
            SighTreaties z = Made.full();
            z.translate(23, 2, 60);
            z.annex(23, 2, 59);
            for (int clause = 0; clause < 24; clause++) {
                for (int tongue = 0; tongue < 3; tongue++) {
                    boolean isLast = clause == 23 && tongue == 2;
                    Boundary.due("the last one alone", z.annexedOf(clause, tongue), isLast ? 59 : 0);
                }
            }
        });
    }

    private static void recordings() {
        Boundary.test(31, "Returns true if so.", () -> {
            Boundary.answers("not translated", Made::one, false, x -> x.isRecorded(0, 0));
            SighTreaties x = Boundary.answers("translated", () -> withFrames(15), false, y -> y.isRecorded(0, 1));
            x.record(0, 1);
            Boundary.due("recorded", x.isRecorded(0, 1), true);
            Boundary.due("not in 0", x.isRecorded(0, 0), false);
            Boundary.due("not in 2", x.isRecorded(0, 2), false);
            x.wipe(0, 1);
            Boundary.due("wiped", x.isRecorded(0, 1), false);
            x.undo();
            Boundary.due("not wiped", x.isRecorded(0, 1), true);
        });
        Boundary.test(32, "Returns the session.", () -> {
            SighTreaties x = withFrames(15);
            x.record(0, 1);
            Boundary.due("the first one", x.sessionOf(0, 1), 0);
            x.nextSession();
            Boundary.due("it stays", x.sessionOf(0, 1), 0);
            x.wipe(0, 1);
            x.record(0, 1);
            Boundary.due("the next one", x.sessionOf(0, 1), 1);
        });
        Boundary.test(32, "Throws `IllegalStateException` if it is not recorded", () -> {
            Boundary.refused("not translated", Made::one, Boundary.STATE, x -> x.sessionOf(0, 0));
            Boundary.refused("translated", () -> withFrames(15), Boundary.STATE, x -> x.sessionOf(0, 1));
            SighTreaties x = withFrames(15);
            x.record(0, 1);
            Boundary.due("in tongue 0", Boundary.answer(x, y -> y.sessionOf(0, 0)), Boundary.STATE);
            Boundary.due("in tongue 2", Boundary.answer(x, y -> y.sessionOf(0, 2)), Boundary.STATE);
            x.wipe(0, 1);
            Boundary.due("wiped", Boundary.answer(x, y -> y.sessionOf(0, 1)), Boundary.STATE);
        });
    }

    private static void lengths() {
        Boundary.test(33, "Returns the frames, below 0 if the lips are shorter.", () -> {
            Boundary.answers("longer by 1", () -> withFrames(14), 1, x -> x.roomFor(0, 1));
            Boundary.answers("as long", () -> withFrames(15), 0, x -> x.roomFor(0, 1));
            Boundary.answers("shorter by 1", () -> withFrames(16), -1, x -> x.roomFor(0, 1));
            Boundary.answers("the most", () -> withFrames("0A60", 1), 59, x -> x.roomFor(0, 1));
            Boundary.answers("the least", () -> withFrames("0A4~4", 60), -60, x -> x.roomFor(0, 1));
        });
        Boundary.test(34, "the lips are not shorter than it and the sigh, together.", () -> {
            Boundary.answers("longer by 1", () -> withFrames(14), true, x -> x.fits(0, 1));
            Boundary.answers("as long", () -> withFrames(15), true, x -> x.fits(0, 1));
            Boundary.answers("shorter by 1", () -> withFrames(16), false, x -> x.fits(0, 1));
            Boundary.answers("a sigh as long as the lips", () -> withFrames("0A4~4", 1), false, x -> x.fits(0, 1));
        });
        Boundary.test(34, "Returns true if so; false if it is not translated.", () -> {
            Boundary.answers("not translated", Made::one, false, x -> x.fits(0, 0));
            Boundary.answers("not in tongue 0", () -> withFrames(1), false, x -> x.fits(0, 0));
            Boundary.answers("in tongue 1", () -> withFrames(1), true, x -> x.fits(0, 1));
            Boundary.answers("recorded", Made::recorded, true, x -> x.fits(0, 2));
        });
        Boundary.test(35, "Returns the hundredths, more than 100 if they are too long.", () -> {
            Boundary.answers("as long", () -> withFrames(15), 100, x -> x.hundredthsOf(0, 1));
            Boundary.answers("too long by 1", () -> withFrames(16), 105, x -> x.hundredthsOf(0, 1));
            Boundary.answers("too long by 1 of 60", () -> withFrames("0A60~1", 60), 101, x -> x.hundredthsOf(0, 1));
            Boundary.answers("too short by 1 of 60", () -> withFrames("0A60", 59), 98, x -> x.hundredthsOf(0, 1));
            Boundary.answers("the least", () -> withFrames("0A60", 1), 1, x -> x.hundredthsOf(0, 1));
            Boundary.answers("the most", () -> withFrames("0A4~4", 60), 1600, x -> x.hundredthsOf(0, 1));
            Boundary.answers("rounded down", () -> withFrames("0A7", 3), 42, x -> x.hundredthsOf(0, 1));
        });
    }

    private static SighTreaties withStamina(int frames, int stamina) {
        SighTreaties x = withFrames(frames);
        x.cast(0, 1, stamina);
        return x;
    }

    private static void reasons() {
        Boundary.test(36, "Returns 1 to 4; 0 if there is none.", () -> {
            Boundary.answers("1", () -> withFrames(15), 1, x -> x.reasonAgainst(0, 0));
            Boundary.answers("0, as long as the lips", () -> withFrames(15), 0, x -> x.reasonAgainst(0, 1));
            Boundary.answers("3, longer by 1", () -> withFrames(16), 3, x -> x.reasonAgainst(0, 1));
            Boundary.answers("0, as much as the strength", () -> withStamina(15, 20), 0, x -> x.reasonAgainst(0, 1));
            Boundary.answers("2", Made::recorded, 2, x -> x.reasonAgainst(0, 1));
            SighTreaties x = withStamina(15, 39);
            x.record(0, 1);
            Boundary.due("2, too weak, too", x.reasonAgainst(0, 1), 2);
            x.wipe(0, 1);
            Boundary.due("4, by 1", x.reasonAgainst(0, 1), 4);
            x.cast(0, 1, 40);
            Boundary.due("0", x.reasonAgainst(0, 1), 0);
            x.cast(0, 1, 39);
            x.translate(0, 1, 16);
            Boundary.due("3, too weak, too", x.reasonAgainst(0, 1), 3);
        });
    }

    // ---- promises 37 to 39

    private static void ofVoice(int promise, Boundary.CallOfTwo call) {
        Boundary.test(promise, STATE, () ->
            Boundary.range(Made::council, 0, 4, Boundary.INDEX, (x, state) -> call.on(x, state, 2)));
        Boundary.test(promise, TONGUE, () ->
            Boundary.range(Made::council, 0, 2, Boundary.INDEX, (x, tongue) -> call.on(x, 4, tongue)));
        Boundary.test(promise, NO_VOICE, () -> Boundary.noSuchStateOrTongue(Made::translated, call));
    }

    private static void voices() {
        ofVoice(37, (x, state, tongue) -> x.staminaOf(state, tongue));
        ofVoice(38, (x, state, tongue) -> x.strengthLeft(state, tongue));
        ofVoice(39, (x, state, tongue) -> x.framesOfVoice(state, tongue));
        ofVoice(40, (x, state, tongue) -> x.sessionsByGoing(state, tongue));
        ofVoice(41, (x, state, tongue) -> x.sessionsByTable(state, tongue));
        Boundary.test(37, "Returns the stamina.", () -> {
            SighTreaties x = Boundary.answers("at first", Made::empty, 80, y -> y.staminaOf(4, 2));
            x.cast(4, 2, 20);
            Boundary.due("the least", x.staminaOf(4, 2), 20);
            x.cast(4, 2, 120);
            Boundary.due("the most", x.staminaOf(4, 2), 120);
            Boundary.due("beside it", x.staminaOf(4, 1), 70);
            Boundary.due("above it", x.staminaOf(3, 2), 80);
        });
        Boundary.test(38, "Returns the frames.", () -> {
            SighTreaties x = withStamina(15, 20);
            Boundary.due("all", x.strengthLeft(0, 1), 20);
            x.record(0, 1);
            Boundary.due("none", x.strengthLeft(0, 1), 0);
            Boundary.due("the session's, not the recordings'", x.framesOfVoice(0, 1), 20);
            x.nextSession();
            Boundary.due("all again", x.strengthLeft(0, 1), 20);
        });
        Boundary.test(39, "Returns the frames of all recordings of a voice that there are: translations and sighs.", () -> {
            SighTreaties x = Made.with("0A60~20;1A60;2B60");
            Boundary.due("none", x.framesOfVoice(0, 0), 0);
            Made.take(x, 0, 0, 40);
            Boundary.due("the most of a clause", x.framesOfVoice(0, 0), 60);
            x.nextSession();
            Made.take(x, 1, 0, 60);
            Boundary.due("of two sessions", x.framesOfVoice(0, 0), 120);
            Boundary.due("of another state", x.framesOfVoice(1, 0), 0);
            Boundary.due("of another tongue", x.framesOfVoice(0, 1), 0);
            x.wipe(0, 0);
            Boundary.due("of those that there are", x.framesOfVoice(0, 0), 60);
            x.wipe(1, 0);
            Boundary.due("none any more", x.framesOfVoice(0, 0), 0);
        });
    }

    // ---- promises 40 and 41

    /** State D speaks clauses of 60 frames of lips, translated into tongue 0 with these frames; its stamina is 60. */
    private static SighTreaties needing(int... frames) {
        SighTreaties x = Made.empty();
        for (int i = 0; i < frames.length; i++) {
            x.addClause(i % 4, 3, 60);
            x.translate(i, 0, frames[i]);
        }
        return x;
    }

    private static SighTreaties usedFor(int used, int... frames) {
        SighTreaties x = needing(frames);
        int last = x.addClause(0, 3, 60);
        Made.take(x, last, 0, used);
        return x;
    }

    /** Asked of state D in tongue 0, in both ways. */
    private static void sessions(String what, Boundary.Maker maker, int want) {
        Boundary.answers(what + ", by going", maker, want, x -> x.sessionsByGoing(3, 0));
        Boundary.answers(what + ", by a table", maker, want, x -> x.sessionsByTable(3, 0));
    }

    private static void sessionsByGoing() {
        Boundary.test(40, "the present one among them (also if nothing goes into it any more)", () -> {
            sessions("nothing is left", () -> usedFor(60, 1), 2);
            sessions("1 is left, and 1 goes into it", () -> usedFor(59, 1), 1);
            sessions("1 is left, and 2 do not go into it", () -> usedFor(59, 2), 2);
            sessions("nothing is left, and 60 fill the next one", () -> usedFor(60, 30, 30), 2);
            sessions("nothing is left, and 61 need two more", () -> usedFor(60, 30, 31), 3);
        });
        Boundary.test(40, "what does not go into a session any more goes into the next one.", () -> {
            sessions("as many as the stamina", () -> needing(30, 30), 1);
            sessions("one more", () -> needing(30, 31), 2);
            sessions("nothing goes back into a session before", () -> needing(50, 20, 10, 31), 3);
            sessions("each one alone", () -> needing(60, 60, 60), 3);
            sessions("by the numbers of the clauses", () -> needing(31, 60, 29), 3);
            sessions("by the numbers of the clauses", () -> needing(31, 29, 60), 2);
        });
        Boundary.test(40, "Returns the sessions; 0 if nothing is ready.", QuestionBoundaries::nothingReady);
        Boundary.test(40, TOO_LONG, () -> tooLong((x, state, tongue) -> x.sessionsByGoing(state, tongue)));
    }

    private static void nothingReady() {
        sessions("no clauses", Made::empty, 0);
        sessions("nothing translated", Made::full, 0);
        sessions("nothing recorded, nothing is left", () -> usedFor(60), 0);
        SighTreaties x = needing(60);
        Boundary.due("one", x.sessionsByGoing(3, 0), 1);
        Boundary.due("another tongue", x.sessionsByGoing(3, 1), 0);
        Boundary.due("another state", x.sessionsByGoing(2, 0), 0);
        x.changeSigh(0, 1);
        Boundary.due("does not fit", x.sessionsByGoing(3, 0), 0);
        x.undo();
        x.record(0, 0);
        Boundary.due("recorded", x.sessionsByGoing(3, 0), 0);
        x.wipe(0, 0);
        Boundary.due("wiped", x.sessionsByGoing(3, 0), 2);
    }

    private static SighTreaties needingWithStamina(int stamina, int... frames) {
        SighTreaties x = needing(frames);
        x.cast(3, 0, stamina);
        return x;
    }

    private static void tooLong(Boundary.CallOfTwo call) {
        Boundary.answers("as long", () -> needingWithStamina(40, 40), 1, x -> call.on(x, 3, 0));
        Boundary.refused("longer by 1", () -> needingWithStamina(40, 41), Boundary.STATE, x -> call.on(x, 3, 0));
        Boundary.refused("the last one", () -> needingWithStamina(40, 5, 5, 41), Boundary.STATE, x -> call.on(x, 3, 0));
        Boundary.refused("the first one", () -> needingWithStamina(40, 41, 5, 5), Boundary.STATE, x -> call.on(x, 3, 0));
        Boundary.answers("another state", () -> needingWithStamina(40, 41), 0, x -> call.on(x, 2, 0));
        Boundary.answers("another tongue", () -> needingWithStamina(40, 41), 0, x -> call.on(x, 3, 1));
        Boundary.answers("longer than the strength that is left", () -> usedFor(1, 60), 2, x -> call.on(x, 3, 0));
        SighTreaties x = needing(41, 5);
        x.record(0, 0);
        x.nextSession();
        x.cast(3, 0, 40);
        Boundary.due("recorded, so not ready", Boundary.answer(x, y -> call.on(y, 3, 0)), 1);
        SighTreaties z = needingWithStamina(40, 41, 5);
        z.changeLips(0, 40);
        Boundary.due("a misfit, so not ready", Boundary.answer(z, y -> call.on(y, 3, 0)), 1);
        SighTreaties w = needingWithStamina(40, 40);
        w.changeSigh(0, 1);
        Boundary.due("longer by its sigh", Boundary.answer(w, y -> call.on(y, 3, 0)), Boundary.STATE);
    }

    private static int[] equal(int many, int frames) {
        int[] all = new int[many];
        java.util.Arrays.fill(all, frames);
        return all;
    }

    private static void sessionsOfMany() {
        Boundary.test(40, "all that is ready of a state can be recorded in a tongue", () -> {
            sessions("24 clauses, each alone", () -> needing(equal(24, 60)), 24);
            sessions("24 clauses, each alone", () -> needing(equal(24, 31)), 24);
            sessions("24 clauses, two in each", () -> needing(equal(24, 30)), 12);
            sessions("24 clauses, all in one", () -> needing(equal(24, 2)), 1);
            sessions("23 clauses, and nothing is left", () -> usedFor(60, equal(23, 60)), 24);
            SighTreaties x = usedFor(60, equal(23, 60));
            x.wipe(23, 0);
            Boundary.due("24 clauses, and nothing is left", x.sessionsByGoing(3, 0), 25);
        });
    }

    private static void sessionsByTable() {
        Boundary.test(41, "the present one among them", () -> {
            Boundary.answers("nothing is left", () -> usedFor(60, 1), 2, x -> x.sessionsByTable(3, 0));
            Boundary.answers("1 is left", () -> usedFor(59, 1), 1, x -> x.sessionsByTable(3, 0));
            Boundary.answers("1 is left, 2 are needed", () -> usedFor(59, 2), 2, x -> x.sessionsByTable(3, 0));
            SighTreaties x = usedFor(60, equal(23, 60));
            x.wipe(23, 0);
            Boundary.due("24 clauses, and nothing is left", x.sessionsByTable(3, 0), 25);
        });
        Boundary.test(41, "of all ways to divide them.", () -> {
            Boundary.answers("20 and 20 and 40, or 20 and 60", () -> usedFor(40, 20, 20, 40), 2,
                x -> x.sessionsByTable(3, 0));
            Boundary.answers("nothing, and then 30 and 30", () -> usedFor(50, 30, 30), 2, x -> x.sessionsByTable(3, 0));
            Boundary.answers("10, and then 30 and 30", () -> usedFor(50, 10, 30, 30), 2, x -> x.sessionsByTable(3, 0));
            Boundary.answers("10, and then 30 and 31", () -> usedFor(50, 10, 30, 31), 3, x -> x.sessionsByTable(3, 0));
        });
        Boundary.test(41, "Returns the sessions, as many as by sessionsByGoing().", () -> {
            for (int used = 1; used <= 60; used++) {
                for (int first = 1; first <= 60; first += 7) {
                    int u = used;
                    int f = first;
                    SighTreaties x = usedFor(u, f, 61 - f, 30, f, f, 60, 61 - f, 17);
                    Boundary.due("used " + u, x.sessionsByTable(3, 0), x.sessionsByGoing(3, 0));
                }
            }
            Boundary.answers("nothing ready", Made::full, 0, x -> x.sessionsByTable(3, 0));
            Boundary.answers("recorded", () -> usedFor(60), 0, x -> x.sessionsByTable(3, 0));
        });
        Boundary.test(41, TOO_LONG, () -> tooLong((x, state, tongue) -> x.sessionsByTable(state, tongue)));
    }

    // ---- promises 60 and 61

    private static void leastAnnex() {
        ofTranslation(60, (x, clause, tongue) -> x.leastAnnex(clause, tongue));
        Boundary.test(60, "Returns the frames, 0 if it fits.", () -> {
            Boundary.answers("longer by 1", () -> withFrames(14), 0, x -> x.leastAnnex(0, 1));
            Boundary.answers("as long", () -> withFrames(15), 0, x -> x.leastAnnex(0, 1));
            Boundary.answers("shorter by 1", () -> withFrames(16), 1, x -> x.leastAnnex(0, 1));
            Boundary.answers("the most", () -> withFrames("0A4~3", 60), 59, x -> x.leastAnnex(0, 1));
            Boundary.answers("recorded", Made::recorded, 0, x -> x.leastAnnex(0, 1));
            SighTreaties x = withFrames(22);
            x.annex(0, 1, x.leastAnnex(0, 1));
            Boundary.due("it fits then", x.roomFor(0, 1), 0);
        });
        Boundary.test(60, "whether the annex has room for them or not.", () -> {
            SighTreaties x = Made.with("0A60;0A60;0A4");
            for (int clause = 0; clause < 3; clause++) {
                x.translate(clause, 0, 60);
            }
            x.annex(0, 0, 59);
            x.annex(1, 0, 40);
            Boundary.due("56, and room for none", x.leastAnnex(2, 0), 56);
            Boundary.due("no room", Boundary.answer(x, y -> y.annex(2, 0, 1)), Boundary.STATE);
        });
        Boundary.test(60, "Throws `IllegalStateException` if it is not translated, or less than 1 frame would be left", () -> {
            Boundary.refused("not translated", Made::one, Boundary.STATE, x -> x.leastAnnex(0, 0));
            Boundary.refused("in another tongue", () -> withFrames(15), Boundary.STATE, x -> x.leastAnnex(0, 2));
            for (int frames : new int[] {1, 2, 60}) {
                Boundary.answers("1 frame is left", () -> withFrames("0A4~3", frames), frames - 1, x -> x.leastAnnex(0, 1));
                Boundary.refused("none is left", () -> withFrames("0A4~4", frames), Boundary.STATE,
                    x -> x.leastAnnex(0, 1));
            }
        });
    }

    /** Lips of 60 without a sigh, translated with these frames into the tongues from 0 on. */
    private static SighTreaties inTongues(int lips, int... frames) {
        SighTreaties x = Made.with("0A" + lips);
        for (int tongue = 0; tongue < frames.length; tongue++) {
            x.translate(0, tongue, frames[tongue]);
        }
        return x;
    }

    private static void longestSigh() {
        ofClause(61, (x, clause) -> x.longestSigh(clause));
        Boundary.test(61, "so that all translations that there are fit, whether there are any or not.", () -> {
            Boundary.answers("none, long lips", Made::one, 20, x -> x.longestSigh(0));
            Boundary.answers("none, lips of 20", () -> Made.with("0A20"), 20, x -> x.longestSigh(0));
            Boundary.answers("none, lips of 19", () -> Made.with("0A19"), 19, x -> x.longestSigh(0));
            Boundary.answers("none, lips of 4", () -> Made.with("0A4~2"), 4, x -> x.longestSigh(0));
            Boundary.answers("the longest one is the last", () -> inTongues(60, 1, 1, 50), 10, x -> x.longestSigh(0));
            Boundary.answers("the longest one is the first", () -> inTongues(60, 50, 1, 1), 10, x -> x.longestSigh(0));
            Boundary.answers("one alone", () -> inTongues(60, 41), 19, x -> x.longestSigh(0));
        });
        Boundary.test(61, "Returns the frames, 0 to 20.", () -> {
            Boundary.answers("room for 21", () -> inTongues(60, 39), 20, x -> x.longestSigh(0));
            Boundary.answers("room for 20", () -> inTongues(60, 40), 20, x -> x.longestSigh(0));
            Boundary.answers("room for 19", () -> inTongues(60, 41), 19, x -> x.longestSigh(0));
            Boundary.answers("room for 1", () -> inTongues(60, 59), 1, x -> x.longestSigh(0));
            Boundary.answers("room for none", () -> inTongues(60, 60), 0, x -> x.longestSigh(0));
            SighTreaties x = inTongues(60, 45);
            x.changeSigh(0, 20);
            Boundary.due("whatever sigh it has", x.longestSigh(0), 15);
            Boundary.answers("recorded", Made::recorded, 5, y -> y.longestSigh(0));
        });
        Boundary.test(61, "Throws `IllegalStateException` if some translation does not fit without a sigh, either", () -> {
            for (int tongue = 0; tongue < 3; tongue++) {
                int[] frames = {5, 5, 5};
                frames[tongue] = 30;
                Boundary.answers("it fits", () -> inTongues(30, frames), 0, x -> x.longestSigh(0));
                Boundary.refused("it does not", () -> inTongues(29, frames), Boundary.STATE, x -> x.longestSigh(0));
            }
            SighTreaties x = inTongues(29, 30);
            x.annex(0, 0, 1);
            Boundary.due("annexed", x.longestSigh(0), 0);
            x.bringBack(0, 0);
            Boundary.due("brought back", Boundary.answer(x, y -> y.longestSigh(0)), Boundary.STATE);
        });
    }
}
