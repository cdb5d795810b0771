/** The boundaries of promises 42 to 59 and 62 to 65: what is told of reels, of tongues and of the whole treaty. */
final class TreatyBoundaries {
    private static final String NO_REEL = "Throws `IndexOutOfBoundsException` if there is no such reel";
    private static final String NO_REEL_IN = "Throws `IndexOutOfBoundsException` if there is no such reel or tongue";
    private static final String NO_TONGUE = "Throws `IndexOutOfBoundsException` if there is no such tongue";
    private static final String STATE = "- `state`: 0 to 4";
    private static final String REEL = "- `reel`: 0 to 3";
    private static final String TONGUE = "- `tongue`: 0 to 2";
    private static final String TRUE = "Returns true if so.";

    private TreatyBoundaries() {
    }

    static void tests() {
        ofReels();
        ofReelsInTongues();
        ofTongues();
        speaking();
        complete();
        mixedAndSigned();
        missing();
        annexAndRecorded();
        ready();
        ratified();
        misfits();
        accounts();
        nextClause();
        mostOf();
        meanFit();
    }

    // ---- numbers that there are, and those that there are not

    private static void ofReel(int promise, Boundary.CallOfOne call) {
        Boundary.test(promise, REEL, () -> Boundary.range(Made::council, 0, 3, Boundary.INDEX, call));
        Boundary.test(promise, NO_REEL, () -> Boundary.noSuchReel(Made::council, call));
    }

    private static void ofReelIn(int promise, Boundary.CallOfTwo call) {
        Boundary.test(promise, REEL, () ->
            Boundary.range(Made::council, 0, 3, Boundary.INDEX, (x, reel) -> call.on(x, reel, 2)));
        Boundary.test(promise, TONGUE, () ->
            Boundary.range(Made::council, 0, 2, Boundary.INDEX, (x, tongue) -> call.on(x, 3, tongue)));
        Boundary.test(promise, NO_REEL_IN, () -> Boundary.noSuchReelOrTongue(Made::council, call));
    }

    private static void ofTongue(int promise, Boundary.CallOfOne call) {
        Boundary.test(promise, TONGUE, () -> Boundary.range(Made::translated, 0, 2, Boundary.INDEX, call));
        Boundary.test(promise, NO_TONGUE, () -> Boundary.noSuchTongue(Made::translated, call));
    }

    private static void ofReels() {
        ofReel(42, (x, reel) -> x.clausesIn(reel));
        ofReel(43, (x, reel) -> x.lengthOf(reel));
        Boundary.test(44, STATE, () ->
            Boundary.range(Made::council, 0, 4, Boundary.INDEX, (x, state) -> x.speaksIn(state, 3)));
        Boundary.test(44, REEL, () ->
            Boundary.range(Made::council, 0, 3, Boundary.INDEX, (x, reel) -> x.speaksIn(4, reel)));
        Boundary.test(44, "Throws `IndexOutOfBoundsException` if there is no such state or reel", () ->
            Boundary.noSuchStateOrReel(Made::council, (x, state, reel) -> x.speaksIn(state, reel)));
    }

    private static void ofReelsInTongues() {
        ofReelIn(45, (x, reel, tongue) -> x.isComplete(reel, tongue));
        ofReelIn(46, (x, reel, tongue) -> x.isMixed(reel, tongue));
        ofReelIn(48, (x, reel, tongue) -> x.signaturesOn(reel, tongue));
        ofReelIn(49, (x, reel, tongue) -> x.missingOn(reel, tongue));
        Boundary.test(47, STATE, () ->
            Boundary.range(Made::signed, 0, 4, Boundary.INDEX, (x, state) -> x.hasSigned(state, 3, 2)));
        Boundary.test(47, REEL, () ->
            Boundary.range(Made::signed, 0, 3, Boundary.INDEX, (x, reel) -> x.hasSigned(4, reel, 2)));
        Boundary.test(47, TONGUE, () ->
            Boundary.range(Made::signed, 0, 2, Boundary.INDEX, (x, tongue) -> x.hasSigned(4, 3, tongue)));
        Boundary.test(47, "Throws `IndexOutOfBoundsException` if there is no such state, reel or tongue", () -> {
            Boundary.noSuchStateOrTongue(Made::signed, (x, state, tongue) -> x.hasSigned(state, 3, tongue));
            Boundary.noSuchReelOrTongue(Made::signed, (x, reel, tongue) -> x.hasSigned(4, reel, tongue));
            Boundary.noSuchStateOrReel(Made::signed, (x, state, reel) -> x.hasSigned(state, reel, 2));
        });
    }

    private static void ofTongues() {
        ofTongue(50, (x, tongue) -> x.annexOf(tongue));
        ofTongue(51, (x, tongue) -> x.recordedIn(tongue));
        ofTongue(52, (x, tongue) -> x.readyByClauses(tongue));
        ofTongue(53, (x, tongue) -> x.readyByVoices(tongue));
        ofTongue(54, (x, tongue) -> x.isRatified(tongue));
        ofTongue(55, (x, tongue) -> x.misfitsIn(tongue));
        ofTongue(62, (x, tongue) -> x.nextClause(tongue));
        ofTongue(65, (x, tongue) -> x.meanFit(tongue));
    }

    // ---- promises 42 to 49

    private static void speaking() {
        Boundary.test(42, "Returns the clauses.", () -> {
            for (int reel = 0; reel < 4; reel++) {
                int r = reel;
                Boundary.answers("none", Made::empty, 0, x -> x.clausesIn(r));
                Boundary.answers("all 24", () -> onReel(24, r), 24, x -> x.clausesIn(r));
                Boundary.answers("none of 24", () -> onReel(24, r), 0, x -> x.clausesIn((r + 1) % 4));
            }
        });
        Boundary.test(43, "Returns the frames of all its clauses, together.", () -> {
            for (int reel = 0; reel < 4; reel++) {
                int r = reel;
                Boundary.answers("none", Made::empty, 0, x -> x.lengthOf(r));
                Boundary.answers("the most", () -> onReel(24, r), 24 * 60, x -> x.lengthOf(r));
                Boundary.answers("none of 24", () -> onReel(24, r), 0, x -> x.lengthOf((r + 1) % 4));
            }
            Boundary.answers("the least of a clause", () -> Made.with("2A4~4;1A60~20"), 4, x -> x.lengthOf(2));
        });
        Boundary.test(44, "Returns true if it speaks some clause of it.", () -> {
            Boundary.answers("no clauses", Made::empty, false, x -> x.speaksIn(0, 0));
            Boundary.answers("the first of 24", () -> lastByE(24), true, x -> x.speaksIn(3, 2));
            Boundary.answers("the last of 24", () -> lastByE(24), true, x -> x.speaksIn(4, 2));
            Boundary.answers("another state", () -> lastByE(24), false, x -> x.speaksIn(0, 2));
            Boundary.answers("another reel", () -> lastByE(24), false, x -> x.speaksIn(4, 3));
            SighTreaties x = lastByE(24);
            x.moveClause(23, 3);
            Boundary.due("moved away", x.speaksIn(4, 2), false);
            Boundary.due("moved there", x.speaksIn(4, 3), true);
        });
    }

    private static SighTreaties onReel(int clauses, int reel) {
        SighTreaties x = Made.empty();
        for (int i = 0; i < clauses; i++) {
            x.addClause(reel, i % 5, 60);
        }
        return x;
    }

    /** All on reel 2, spoken by D but for the last one. */
    private static SighTreaties lastByE(int clauses) {
        SighTreaties x = Made.empty();
        for (int i = 1; i < clauses; i++) {
            x.addClause(2, 3, 60);
        }
        x.addClause(2, 4, 60);
        return x;
    }

    private static void complete() {
        Boundary.test(45, "it has clauses, and all of them are recorded.", () -> {
            Boundary.answers("no clauses at all", Made::empty, false, x -> x.isComplete(0, 0));
            Boundary.answers("no clauses on it", Made::one, false, x -> x.isComplete(3, 0));
            Boundary.answers("none is recorded", Made::translated, false, x -> x.isComplete(0, 0));
            Boundary.answers("the only one is recorded", Made::recorded, true, x -> x.isComplete(1, 0));
            for (int clause = 0; clause < 5; clause++) {
                SighTreaties x = Made.complete();
                x.wipe(clause, 1);
                Boundary.due("all but " + clause, x.isComplete(0, 1), false);
                Boundary.due("another tongue", x.isComplete(0, 0), true);
                Boundary.due("another reel", x.isComplete(1, 1), true);
                x.record(clause, 1);
                Boundary.due("recorded again", x.isComplete(0, 1), true);
            }
        });
        Boundary.test(45, TRUE, () -> {
            SighTreaties x = Boundary.answers("complete", Made::complete, true, y -> y.isComplete(3, 2));
            x.addClause(3, 0, 10);
            Boundary.due("a new clause", x.isComplete(3, 2), false);
            x.moveClause(8, 2);
            Boundary.due("it is moved away", x.isComplete(3, 2), true);
            Boundary.due("it is moved there", x.isComplete(2, 2), false);
        });
    }

    private static void mixedAndSigned() {
        Boundary.test(46, TRUE, () -> {
            SighTreaties x = Boundary.answers("complete alone", Made::complete, false, y -> y.isMixed(0, 0));
            x.mix(0, 0);
            Boundary.due("mixed", x.isMixed(0, 0), true);
            Boundary.due("another reel", x.isMixed(1, 0), false);
            Boundary.due("another tongue", x.isMixed(0, 1), false);
            x.nextSession();
            Boundary.due("in the next session", x.isMixed(0, 0), true);
            x.wipe(4, 0);
            Boundary.due("wiped", x.isMixed(0, 0), false);
        });
        Boundary.test(47, TRUE, () -> {
            for (int state = 0; state < 5; state++) {
                SighTreaties x = Made.council();
                Boundary.due("not yet", x.hasSigned(state, 0, 2), false);
                x.sign(state, 0, 2);
                for (int other = 0; other < 5; other++) {
                    Boundary.due("state " + other, x.hasSigned(other, 0, 2), other == state);
                    Boundary.due("another tongue", x.hasSigned(other, 0, 1), false);
                    Boundary.due("another reel", x.hasSigned(other, 1, 2), false);
                }
            }
        });
        Boundary.test(48, "Returns the signatures.", () -> {
            SighTreaties x = Boundary.answers("not mixed", Made::complete, 0, y -> y.signaturesOn(0, 0));
            x.mix(0, 0);
            for (int state = 0; state < 5; state++) {
                Boundary.due("signatures", x.signaturesOn(0, 0), state);
                x.sign(state, 0, 0);
            }
            Boundary.due("the most", x.signaturesOn(0, 0), 5);
            Boundary.due("another tongue", x.signaturesOn(0, 1), 0);
            x.addClause(0, 0, 10);
            Boundary.due("not mixed any more", x.signaturesOn(0, 0), 0);
        });
    }

    private static void missing() {
        Boundary.test(49, "Returns the signatures, also if it is not mixed.", () -> {
            Boundary.answers("not mixed", Made::complete, 5, x -> x.missingOn(0, 2));
            Boundary.answers("not mixed, one state", Made::complete, 1, x -> x.missingOn(3, 2));
            Boundary.answers("not translated", Made::one, 1, x -> x.missingOn(0, 2));
            Boundary.answers("no clauses", Made::one, 0, x -> x.missingOn(3, 0));
            Boundary.answers("one state with 24 clauses", TreatyBoundaries::allByD, 1, x -> x.missingOn(2, 0));
        });
        Boundary.test(49, "states that speak in it, and have not signed it.", () -> {
            SighTreaties x = Made.council();
            for (int state = 4; state >= 0; state--) {
                Boundary.due("missing", x.missingOn(0, 1), state + 1);
                x.sign(state, 0, 1);
            }
            Boundary.due("none", x.missingOn(0, 1), 0);
            Boundary.due("another tongue", x.missingOn(0, 0), 5);
            x.wipe(3, 1);
            Boundary.due("wiped", x.missingOn(0, 1), 5);
        });
    }

    private static SighTreaties allByD() {
        SighTreaties x = Made.empty();
        for (int i = 0; i < 24; i++) {
            x.addClause(2, 3, 4);
        }
        return x;
    }

    // ---- promises 50 to 55

    private static void annexAndRecorded() {
        Boundary.test(50, "Returns 0 to 99.", () -> {
            SighTreaties x = Made.with("0A60;0A60");
            x.translate(0, 2, 60);
            x.translate(1, 2, 60);
            Boundary.due("none", x.annexOf(2), 0);
            x.annex(0, 2, 1);
            Boundary.due("the least", x.annexOf(2), 1);
            x.annex(0, 2, 58);
            x.annex(1, 2, 40);
            Boundary.due("the most", x.annexOf(2), 99);
            Boundary.answer(x, y -> y.annex(1, 2, 1));
            Boundary.due("not 100", x.annexOf(2), 99);
            Boundary.due("another tongue", x.annexOf(1), 0);
            x.record(1, 2);
            Boundary.due("recorded", x.annexOf(2), 99);
        });
        Boundary.test(51, "Returns the clauses.", () -> {
            Boundary.answers("none", Made::empty, 0, x -> x.recordedIn(0));
            for (int tongue = 0; tongue < 3; tongue++) {
                int t = tongue;
                Boundary.answers("all 24", () -> allRecordedIn(t), 24, x -> x.recordedIn(t));
                Boundary.answers("of another tongue", () -> allRecordedIn(t), 0, x -> x.recordedIn((t + 1) % 3));
                SighTreaties x = allRecordedIn(t);
                x.wipe(23, t);
                Boundary.due("all but one", x.recordedIn(t), 23);
            }
        });
    }

    private static SighTreaties allRecordedIn(int tongue) {
        SighTreaties x = Made.some(24);
        for (int clause = 0; clause < 24; clause++) {
            Made.take(x, clause, tongue, 1);
        }
        return x;
    }

    private static SighTreaties allReady() {
        SighTreaties x = Made.empty();
        for (int i = 0; i < 24; i++) {
            x.addClause(i % 4, i % 5, 60);
            x.changeSigh(i, 20);
            x.translate(i, 2, 40);
        }
        return x;
    }

    private static void ready() {
        Boundary.test(52, "Returns the frames that are ready in a tongue, told clause by clause.", () ->
            readyBy((x, tongue) -> x.readyByClauses(tongue)));
        Boundary.test(53, "Returns the frames that are ready in a tongue, told voice by voice.", () ->
            readyBy((x, tongue) -> x.readyByVoices(tongue)));
        Boundary.test(53, "Returns the frames, as many as by readyByClauses().", () -> {
            for (int clauses = 0; clauses <= 24; clauses++) {
                SighTreaties x = Made.some(clauses);
                for (int clause = 0; clause < clauses; clause++) {
                    x.translate(clause, 1, 8 + clause);
                    Boundary.due("of " + clauses, x.readyByVoices(1), x.readyByClauses(1));
                }
                Boundary.due("of " + clauses, x.readyByVoices(1), x.readyByClauses(1));
            }
        });
    }

    private static void readyBy(Boundary.CallOfOne call) {
        Boundary.due("none", call.on(Made.empty(), 0), 0);
        Boundary.due("the most", call.on(allReady(), 2), 24 * 60);
        Boundary.due("none in another tongue", call.on(allReady(), 1), 0);
        SighTreaties x = Made.with("0A20~5");
        x.translate(0, 0, 16);
        Boundary.due("longer than the lips by 1", call.on(x, 0), 0);
        x.translate(0, 0, 15);
        Boundary.due("as long as the lips", call.on(x, 0), 20);
        x.record(0, 0);
        Boundary.due("recorded", call.on(x, 0), 0);
        x.cast(0, 0, 20);
        x.wipe(0, 0);
        Boundary.due("without strength", call.on(x, 0), 20);
        x.changeSigh(0, 6);
        Boundary.due("by its sigh too long", call.on(x, 0), 0);
    }

    private static void ratified() {
        Boundary.test(54, "there are clauses, and each reel that has some is mixed in it, and misses no signature.", () -> {
            Boundary.answers("no clauses", Made::empty, false, x -> x.isRatified(0));
            Boundary.answers("not mixed", Made::complete, false, x -> x.isRatified(0));
            Boundary.answers("not signed", Made::council, false, x -> x.isRatified(0));
            Boundary.answers("all signed", Made::signed, true, x -> x.isRatified(0));
            for (int clause = 0; clause < 8; clause++) {
                SighTreaties x = Made.signed();
                x.wipe(clause, 1);
                Boundary.due("wiped", x.isRatified(1), false);
                Boundary.due("another tongue", x.isRatified(0), true);
                Boundary.due("another tongue", x.isRatified(2), true);
                x.record(clause, 1);
                x.mix(x.reelOf(clause), 1);
                Boundary.due("mixed again, not signed", x.isRatified(1), false);
            }
        });
        Boundary.test(54, TRUE, () -> {
            SighTreaties one = Made.one();
            Made.take(one, 0, 2, 60);
            one.mix(0, 2);
            Boundary.due("one clause, not signed", one.isRatified(2), false);
            one.sign(0, 0, 2);
            Boundary.due("one clause, signed", one.isRatified(2), true);
            for (int reel = 0; reel < 4; reel++) {
                SighTreaties x = Made.with(reel + "E4;" + reel + "C4");
                Made.take(x, 0, 0, 4);
                Made.take(x, 1, 0, 4);
                x.mix(reel, 0);
                x.sign(4, reel, 0);
                Boundary.due("one is missing", x.isRatified(0), false);
                x.sign(2, reel, 0);
                Boundary.due("none is missing", x.isRatified(0), true);
                x.addClause((reel + 1) % 4, 0, 10);
                Boundary.due("a clause on another reel", x.isRatified(0), false);
            }
        });
    }

    private static void misfits() {
        Boundary.test(55, "Returns the clauses.", () -> {
            Boundary.answers("none", Made::empty, 0, x -> x.misfitsIn(0));
            Boundary.answers("none translated", Made::full, 0, x -> x.misfitsIn(0));
            Boundary.answers("all fit", TreatyBoundaries::allReady, 0, x -> x.misfitsIn(2));
            Boundary.answers("recorded ones fit", Made::recorded, 0, x -> x.misfitsIn(2));
            SighTreaties x = Made.some(24);
            for (int clause = 0; clause < 24; clause++) {
                x.translate(clause, 2, x.lipsOf(clause) + 1);
                Boundary.due("longer by 1", x.misfitsIn(2), clause + 1);
            }
            Boundary.due("another tongue", x.misfitsIn(1), 0);
            x.changeLips(23, 34);
            Boundary.due("as long", x.misfitsIn(2), 23);
        });
    }

    // ---- promises 56 to 59

    private static void accounts() {
        Boundary.test(56, "Returns 0 to 999.", () -> {
            SighTreaties x = Boundary.answers("at first", Made::empty, 0, y -> y.session());
            for (int session = 1; session <= 250; session++) {
                x.nextSession();
                Boundary.due("session", x.session(), session);
            }
        });
        Boundary.test(57, "Returns how many recordings were made so far.", () -> {
            SighTreaties x = Boundary.answers("none", Made::empty, 0, y -> y.recordings());
            Boundary.due("none", x.recordings(), 0);
            SighTreaties z = Boundary.answers("all", Made::council, 24, y -> y.recordings());
            z.wipe(0, 0);
            Boundary.due("wiped ones, too", z.recordings(), 24);
            z.record(0, 0);
            Boundary.due("once more", z.recordings(), 25);
            Boundary.answer(z, y -> y.record(0, 0));
            Boundary.due("not a refused one", z.recordings(), 25);
            z.undo();
            Boundary.due("undone", z.recordings(), 24);
        });
        Boundary.test(58, "Returns how many recordings were wiped so far.", () -> {
            SighTreaties x = Boundary.answers("none", Made::council, 0, y -> y.wiped());
            x.wipe(0, 0);
            x.wipe(0, 1);
            Boundary.due("two", x.wiped(), 2);
            Boundary.answer(x, y -> y.wipe(0, 0));
            Boundary.due("not a refused one", x.wiped(), 2);
            x.record(0, 0);
            x.wipe(0, 0);
            Boundary.due("the same once more", x.wiped(), 3);
            x.undo();
            Boundary.due("undone", x.wiped(), 2);
        });
        Boundary.test(59, "Returns how often reels were mixed so far.", () -> {
            Boundary.answers("none", Made::complete, 0, x -> x.mixes());
            SighTreaties x = Boundary.answers("all", Made::council, 12, y -> y.mixes());
            x.wipe(7, 0);
            Boundary.due("not mixed any more", x.mixes(), 12);
            Boundary.answer(x, y -> y.mix(3, 0));
            Boundary.due("not a refused one", x.mixes(), 12);
            x.record(7, 0);
            x.mix(3, 0);
            Boundary.due("once more", x.mixes(), 13);
            x.undo();
            Boundary.due("undone", x.mixes(), 12);
        });
    }

    // ---- promises 62 to 65

    private static SighTreaties translatedWith(int first, int second, int third) {
        SighTreaties x = Made.with("0A40;1B40;2C40");
        x.translate(0, 1, first);
        x.translate(1, 1, second);
        x.translate(2, 1, third);
        return x;
    }

    private static void nextClause() {
        Boundary.test(62, "Returns the number of the clause, of several the lowest.", () -> {
            Boundary.answers("three alike", () -> translatedWith(9, 9, 9), 0, x -> x.nextClause(1));
            Boundary.answers("the first two", () -> translatedWith(9, 9, 8), 0, x -> x.nextClause(1));
            Boundary.answers("the last two", () -> translatedWith(8, 9, 9), 1, x -> x.nextClause(1));
            Boundary.answers("the first and the last", () -> translatedWith(9, 8, 9), 0, x -> x.nextClause(1));
            Boundary.answers("the last by 1", () -> translatedWith(9, 9, 10), 2, x -> x.nextClause(1));
            Boundary.answers("the last of 24", TreatyBoundaries::onlyTheLast, 23, x -> x.nextClause(2));
        });
        Boundary.test(62, "with the most frames, translation and sigh together.", () -> {
            SighTreaties x = translatedWith(9, 8, 1);
            x.changeSigh(1, 1);
            Boundary.due("alike by a sigh", x.nextClause(1), 0);
            x.changeSigh(1, 2);
            Boundary.due("more by a sigh", x.nextClause(1), 1);
            x.changeSigh(2, 20);
            Boundary.due("much more by a sigh", x.nextClause(1), 2);
            SighTreaties z = translatedWith(9, 12, 11);
            z.changeSigh(0, 4);
            Boundary.due("the fewest frames, the most with the sigh", z.nextClause(1), 0);
        });
        Boundary.test(62, "the clause that can be recorded now in a tongue", () -> {
            Boundary.answers("as long as the lips", () -> translatedWith(40, 9, 9), 0, x -> x.nextClause(1));
            Boundary.answers("longer by 1", () -> translatedWith(41, 9, 9), 1, x -> x.nextClause(1));
            SighTreaties x = translatedWith(40, 9, 9);
            x.cast(0, 1, 40);
            Boundary.due("as much as the strength", x.nextClause(1), 0);
            x.cast(0, 1, 39);
            Boundary.due("more by 1", x.nextClause(1), 1);
            x.record(1, 1);
            Boundary.due("recorded", x.nextClause(1), 2);
        });
        Boundary.test(62, "Throws `IllegalStateException` if there is none", () -> {
            Boundary.refused("no clauses", Made::empty, Boundary.STATE, x -> x.nextClause(0));
            Boundary.refused("not translated", Made::full, Boundary.STATE, x -> x.nextClause(2));
            Boundary.refused("in another tongue", () -> translatedWith(9, 9, 9), Boundary.STATE, x -> x.nextClause(0));
            Boundary.refused("all recorded", Made::recorded, Boundary.STATE, x -> x.nextClause(1));
            Boundary.refused("none fits", () -> translatedWith(41, 41, 60), Boundary.STATE, x -> x.nextClause(1));
            SighTreaties x = translatedWith(41, 40, 41);
            x.cast(1, 1, 39);
            Boundary.due("none, too weak", Boundary.answer(x, y -> y.nextClause(1)), Boundary.STATE);
            x.cast(1, 1, 40);
            Boundary.due("one", x.nextClause(1), 1);
        });
    }

    private static SighTreaties onlyTheLast() {
        SighTreaties x = Made.some(24);
        x.translate(23, 2, 1);
        return x;
    }

    private static void mostOf() {
        Boundary.test(63, "Returns the tongue, of several the lowest.", () -> {
            Boundary.answers("no clauses", Made::empty, 0, x -> x.bestTongue());
            Boundary.answers("none recorded", Made::translated, 0, x -> x.bestTongue());
            Boundary.answers("as many in all", Made::recorded, 0, x -> x.bestTongue());
            SighTreaties x = Made.recorded();
            x.wipe(0, 0);
            Boundary.due("1 and 2", x.bestTongue(), 1);
            x.wipe(0, 1);
            Boundary.due("2", x.bestTongue(), 2);
            x.wipe(0, 2);
            Boundary.due("as many in all", x.bestTongue(), 0);
            x.wipe(1, 1);
            Boundary.due("0 and 2", x.bestTongue(), 0);
        });
        Boundary.test(64, "Returns the state, of several the lowest.", () -> {
            Boundary.answers("no clauses", Made::empty, 0, x -> x.loudestState());
            Boundary.answers("all alike", () -> Made.with("0E9;0D9;0C9;0B9;0A9"), 0, x -> x.loudestState());
            Boundary.answers("B and E", () -> Made.with("0E10;0D9;0C9;0B10;0A9"), 1, x -> x.loudestState());
            Boundary.answers("E by 1", () -> Made.with("0E11;0D9;0C9;0B10;0A9"), 4, x -> x.loudestState());
            Boundary.answers("D of two clauses", () -> Made.with("0E60;0D57;2D4;0A9"), 3, x -> x.loudestState());
            Boundary.answers("D and E", () -> Made.with("0E60;0D56;2D4;0A9"), 3, x -> x.loudestState());
            Boundary.answers("E, without sighs", () -> Made.with("0E60;0D55~20;2D4~4"), 4, x -> x.loudestState());
        });
    }

    private static void meanFit() {
        Boundary.test(65, "0.0 without any.", () -> {
            Boundary.answers("no clauses", Made::empty, 0.0, x -> x.meanFit(0));
            Boundary.answers("none translated", Made::full, 0.0, x -> x.meanFit(2));
            Boundary.answers("in another tongue", () -> translatedWith(9, 9, 9), 0.0, x -> x.meanFit(0));
            SighTreaties x = Made.with("0A40");
            Made.take(x, 0, 0, 40);
            Boundary.due("one", x.meanFit(0), 100.0);
            x.undo();
            x.undo();
            Boundary.due("undone", x.meanFit(0), 0.0);
        });
        Boundary.test(65, "Returns the hundredths of all translations in the tongue, together, as a double, divided by how "
            + "many they are", () -> {
                SighTreaties x = Made.with("0A60;0A4~4");
                x.translate(0, 0, 1);
                Boundary.due("the least", x.meanFit(0), 1.0);
                x.translate(1, 0, 60);
                Boundary.due("not rounded", x.meanFit(0), 800.5);
                x.translate(1, 1, 60);
                Boundary.due("the most", x.meanFit(1), 1600.0);
                Boundary.answers("a third", () -> translatedWith(40, 40, 39), 297 / 3.0, y -> y.meanFit(1));
                Boundary.answers("each rounded down", () -> translatedWith(1, 1, 3), 11 / 3.0, y -> y.meanFit(1));
                Boundary.answers("misfits, too", () -> translatedWith(41, 40, 40), 302 / 3.0, y -> y.meanFit(1));
                Boundary.answers("of 24", TreatyBoundaries::allReady, 100.0, y -> y.meanFit(2));
            });
    }
}
