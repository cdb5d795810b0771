/** At least one test for each promise of ../shared/DOC.md: ordinary inputs, edges, and wrong inputs. */
public final class SighTreatiesPromises {
    private static final int INDEX = 1;
    private static final int ARGUMENT = 2;
    private static final int STATE = 3;

    private interface Call {
        long answer();
    }

    private static int promise;
    private static int wrong;

    private static void due(String what, long got, long want) {
        if (got != want) {
            wrong++;
            System.out.println("promise " + promise + ": " + what + " answered " + got + ", due is " + want);
        }
    }

    private static void due(String what, double got, double want) {
        if (got != want) {
            wrong++;
            System.out.println("promise " + promise + ": " + what + " answered " + got + ", due is " + want);
        }
    }

    private static void due(String what, boolean got, boolean want) {
        due(what, got ? 1 : 0, want ? 1 : 0);
    }

    /** The call throws this kind of exception, exactly, and changes nothing. */
    private static void refused(SighTreaties x, String what, int kind, Call call) {
        long before = x.digest();
        int got = 0;
        try {
            call.answer();
        } catch (RuntimeException e) {
            if (e.getClass() == IndexOutOfBoundsException.class) {
                got = INDEX;
            } else if (e.getClass() == IllegalArgumentException.class) {
                got = ARGUMENT;
            } else if (e.getClass() == IllegalStateException.class) {
                got = STATE;
            } else {
                got = 9;
            }
        }
        due(what + " throws (1 index, 2 argument, 3 state, 9 other)", got, kind);
        due(what + " leaves all as it was", x.digest(), before);
    }

    /** The call answers this, saves one state, and undo brings the state from before it back. */
    private static void undoable(SighTreaties x, String what, long want, Call call) {
        if (x.savedStates() == 6) {
            forgetSaved(x);
        }
        long before = x.digest();
        int saved = x.savedStates();
        due(what, call.answer(), want);
        due(what + " saves a state", x.savedStates(), saved + 1);
        x.undo();
        due(what + " is undone", x.digest(), before);
        due(what + " once more", call.answer(), want);
    }

    /** Leaves one saved state, so that a digest can tell whether one more is saved and undone. */
    private static void forgetSaved(SighTreaties x) {
        x.keep(0);
        for (int saved = x.savedStates(); saved > 0; saved--) {
            x.undo();
        }
        x.goBack(0);
    }

    private static void write(SighTreaties x, String text) {
        x.clearBuffer();
        for (int i = 0; i < text.length(); i++) {
            x.append(text.charAt(i));
        }
    }

    private static SighTreaties with(String text) {
        SighTreaties x = new SighTreaties();
        write(x, text);
        x.load();
        return x;
    }

    private static void take(SighTreaties x, int clause, int tongue, int frames) {
        x.translate(clause, tongue, frames);
        x.record(clause, tongue);
    }

    /** Reel 1 with clauses 0 (state A), 1 (state C), mixed in tongues 0 and 1 and signed by A in both; 2 is on reel 2. */
    private static SighTreaties mixed() {
        SighTreaties x = with("1A20;1C30~5;2A40");
        take(x, 0, 0, 20);
        take(x, 1, 0, 20);
        take(x, 0, 1, 10);
        take(x, 1, 1, 25);
        x.mix(1, 0);
        x.mix(1, 1);
        x.sign(0, 1, 0);
        x.sign(0, 1, 1);
        return x;
    }

    private static SighTreaties full() {
        SighTreaties x = new SighTreaties();
        for (int i = 0; i < 24; i++) {
            x.addClause(i % 4, i % 5, 10 + i);
        }
        return x;
    }

    private static void promise1() {
        SighTreaties x = new SighTreaties();
        due("clauses", x.clauses(), 0);
        for (int tongue = 0; tongue < 3; tongue++) {
            for (int state = 0; state < 5; state++) {
                due("stamina", x.staminaOf(state, tongue), 60 + 10 * tongue);
                due("strength", x.strengthLeft(state, tongue), 60 + 10 * tongue);
            }
        }
        due("session", x.session(), 0);
        due("recordings", x.recordings(), 0);
        due("wiped", x.wiped(), 0);
        due("mixes", x.mixes(), 0);
        due("saved", x.savedStates(), 0);
        due("buffer", x.clearBuffer(), 0);
        refused(x, "goBack(0)", STATE, () -> { x.goBack(0); return 0; });
        refused(x, "goBack(1)", STATE, () -> { x.goBack(1); return 0; });
        refused(x, "undo", STATE, () -> { x.undo(); return 0; });
    }

    private static void promise2() {
        SighTreaties x = new SighTreaties();
        undoable(x, "addClause(0,0,4)", 0, () -> x.addClause(0, 0, 4));
        undoable(x, "addClause(3,4,60)", 1, () -> x.addClause(3, 4, 60));
        due("reel", x.reelOf(1), 3);
        due("speaker", x.speakerOf(1), 4);
        due("lips", x.lipsOf(1), 60);
        due("sigh", x.sighOf(1), 0);
        due("untranslated", x.isTranslated(1, 2), false);
        refused(x, "reel -1", INDEX, () -> x.addClause(-1, 0, 10));
        refused(x, "reel 4", INDEX, () -> x.addClause(4, 0, 10));
        refused(x, "state -1", INDEX, () -> x.addClause(0, -1, 10));
        refused(x, "state 5", INDEX, () -> x.addClause(0, 5, 10));
        refused(x, "lips 3", ARGUMENT, () -> x.addClause(0, 0, 3));
        refused(x, "lips 61", ARGUMENT, () -> x.addClause(0, 0, 61));
        refused(x, "state and lips", INDEX, () -> x.addClause(0, 5, 61));
        refused(x, "extreme reel", INDEX, () -> x.addClause(Integer.MIN_VALUE, 0, 10));
        refused(x, "extreme lips", ARGUMENT, () -> x.addClause(0, 0, Integer.MAX_VALUE));
        SighTreaties y = full();
        due("24 clauses", y.clauses(), 24);
        refused(y, "a 25th", STATE, () -> y.addClause(0, 0, 10));
        refused(y, "a 25th with wrong lips", ARGUMENT, () -> y.addClause(0, 0, 61));
        refused(y, "a 25th on no reel", INDEX, () -> y.addClause(4, 0, 61));
        SighTreaties z = mixed();
        z.addClause(2, 1, 10);
        due("another reel stays mixed", z.isMixed(1, 0), true);
        undoable(z, "to the mixed reel", 4, () -> z.addClause(1, 1, 10));
        due("not mixed in 0", z.isMixed(1, 0), false);
        due("not mixed in 1", z.isMixed(1, 1), false);
        due("signatures are gone in 0", z.signaturesOn(1, 0), 0);
        due("signatures are gone in 1", z.signaturesOn(1, 1), 0);
        z.undo();
        due("mixed again", z.isMixed(1, 0), true);
        due("signed again", z.hasSigned(0, 1, 0), true);
    }

    private static void promise3() {
        SighTreaties x = with("0A10~7;1B20");
        undoable(x, "changeLips(0,60)", 10, () -> x.changeLips(0, 60));
        undoable(x, "to the sigh", 60, () -> x.changeLips(0, 7));
        undoable(x, "the same", 7, () -> x.changeLips(0, 7));
        refused(x, "below the sigh", STATE, () -> x.changeLips(0, 6));
        due("lips", x.lipsOf(0), 7);
        undoable(x, "changeLips(1,4)", 20, () -> x.changeLips(1, 4));
        refused(x, "no clause 2", INDEX, () -> x.changeLips(2, 10));
        refused(x, "no clause -1", INDEX, () -> x.changeLips(-1, 10));
        refused(x, "no clause, wrong lips", INDEX, () -> x.changeLips(2, 3));
        refused(x, "lips 3", ARGUMENT, () -> x.changeLips(0, 3));
        refused(x, "lips 61", ARGUMENT, () -> x.changeLips(0, 61));
        x.translate(1, 2, 5);
        undoable(x, "a misfit may come", 4, () -> x.changeLips(1, 5));
        x.record(1, 2);
        refused(x, "recorded in tongue 2", STATE, () -> x.changeLips(1, 6));
        refused(x, "recorded, wrong lips", ARGUMENT, () -> x.changeLips(1, 61));
        x.wipe(1, 2);
        due("wiped", x.changeLips(1, 4), 5);
        due("misfit", x.fits(1, 2), false);
        for (int tongue = 0; tongue < 3; tongue++) {
            SighTreaties y = with("0A10");
            take(y, 0, tongue, 5);
            refused(y, "changeLips, recorded", STATE, () -> y.changeLips(0, 20));
            refused(y, "changeSigh, recorded", STATE, () -> y.changeSigh(0, 1));
            refused(y, "moveClause, recorded", STATE, () -> y.moveClause(0, 1));
        }
    }

    private static void promise4() {
        SighTreaties x = with("0A10;1B30");
        undoable(x, "changeSigh(0,10)", 0, () -> x.changeSigh(0, 10));
        refused(x, "beyond the lips", STATE, () -> x.changeSigh(0, 11));
        undoable(x, "changeSigh(0,0)", 10, () -> x.changeSigh(0, 0));
        undoable(x, "the same", 0, () -> x.changeSigh(0, 0));
        undoable(x, "changeSigh(1,20)", 0, () -> x.changeSigh(1, 20));
        due("sigh", x.sighOf(1), 20);
        refused(x, "21", ARGUMENT, () -> x.changeSigh(1, 21));
        refused(x, "-1", ARGUMENT, () -> x.changeSigh(1, -1));
        refused(x, "no clause", INDEX, () -> x.changeSigh(2, -1));
        refused(x, "beyond lips and range", ARGUMENT, () -> x.changeSigh(0, 21));
        take(x, 1, 1, 5);
        refused(x, "recorded", STATE, () -> x.changeSigh(1, 20));
        refused(x, "recorded, none", STATE, () -> x.changeSigh(1, 0));
    }

    private static void promise5() {
        SighTreaties x = mixed();
        undoable(x, "moveClause(2,3)", 2, () -> x.moveClause(2, 3));
        due("reel", x.reelOf(2), 3);
        due("reel 1 stays mixed", x.isMixed(1, 1), true);
        refused(x, "there already", STATE, () -> x.moveClause(2, 3));
        refused(x, "recorded", STATE, () -> x.moveClause(0, 3));
        refused(x, "no clause", INDEX, () -> x.moveClause(3, 0));
        refused(x, "no reel 4", INDEX, () -> x.moveClause(2, 4));
        refused(x, "no reel -1", INDEX, () -> x.moveClause(0, -1));
        undoable(x, "to the mixed reel", 3, () -> x.moveClause(2, 1));
        due("not mixed in 0", x.isMixed(1, 0), false);
        due("not mixed in 1", x.isMixed(1, 1), false);
        due("no signature", x.hasSigned(0, 1, 1), false);
        x.undo();
        due("mixed again", x.isMixed(1, 1), true);
    }

    private static void promise6() {
        SighTreaties x = with("0A10~2;1B60");
        undoable(x, "translate(0,0,8)", 0, () -> x.translate(0, 0, 8));
        undoable(x, "translate(0,0,60)", -52, () -> x.translate(0, 0, 60));
        undoable(x, "translate(0,2,1)", 7, () -> x.translate(0, 2, 1));
        due("only these", x.isTranslated(0, 1), false);
        x.annex(0, 0, 30);
        undoable(x, "in place of it", 3, () -> x.translate(0, 0, 5));
        due("frames", x.framesOf(0, 0), 5);
        due("annexed is gone", x.annexedOf(0, 0), 0);
        due("annex is empty", x.annexOf(0), 0);
        refused(x, "frames 0", ARGUMENT, () -> x.translate(0, 0, 0));
        refused(x, "frames 61", ARGUMENT, () -> x.translate(0, 0, 61));
        refused(x, "no clause", INDEX, () -> x.translate(2, 0, 0));
        refused(x, "no tongue 3", INDEX, () -> x.translate(0, 3, 5));
        refused(x, "no tongue -1", INDEX, () -> x.translate(0, -1, 5));
        x.record(0, 0);
        refused(x, "recorded", STATE, () -> x.translate(0, 0, 5));
        refused(x, "recorded, wrong frames", ARGUMENT, () -> x.translate(0, 0, 61));
        undoable(x, "another tongue", 0, () -> x.translate(0, 1, 8));
    }

    private static void promise7() {
        SighTreaties x = with("0A10;1B60;2C60");
        x.translate(0, 1, 60);
        x.translate(1, 1, 60);
        x.translate(2, 1, 60);
        undoable(x, "annex(0,1,20)", 20, () -> x.annex(0, 1, 20));
        undoable(x, "annex(0,1,39)", 59, () -> x.annex(0, 1, 39));
        due("frames left", x.framesOf(0, 1), 1);
        due("annexed", x.annexedOf(0, 1), 59);
        refused(x, "less than 1 left", STATE, () -> x.annex(0, 1, 1));
        refused(x, "more than 99", STATE, () -> x.annex(1, 1, 41));
        undoable(x, "to 99", 99, () -> x.annex(1, 1, 40));
        refused(x, "more than 99 by one", STATE, () -> x.annex(2, 1, 1));
        refused(x, "untranslated", STATE, () -> x.annex(2, 0, 1));
        refused(x, "frames 0", ARGUMENT, () -> x.annex(2, 1, 0));
        refused(x, "frames 60", ARGUMENT, () -> x.annex(2, 1, 60));
        refused(x, "no clause", INDEX, () -> x.annex(3, 1, 0));
        refused(x, "no tongue", INDEX, () -> x.annex(2, 3, 1));
        x.translate(2, 0, 60);
        undoable(x, "59 at once", 59, () -> x.annex(2, 0, 59));
        x.translate(2, 2, 30);
        x.record(2, 2);
        refused(x, "recorded", STATE, () -> x.annex(2, 2, 1));
        due("another tongue", x.annexOf(1), 99);
    }

    private static void promise8() {
        SighTreaties x = with("0A10;1B60");
        x.translate(0, 1, 20);
        x.annex(0, 1, 5);
        x.annex(0, 1, 6);
        undoable(x, "bringBack(0,1)", 11, () -> x.bringBack(0, 1));
        due("frames", x.framesOf(0, 1), 20);
        due("annexed", x.annexedOf(0, 1), 0);
        due("annex", x.annexOf(1), 0);
        refused(x, "nothing is annexed", STATE, () -> x.bringBack(0, 1));
        refused(x, "untranslated", STATE, () -> x.bringBack(0, 0));
        refused(x, "no clause", INDEX, () -> x.bringBack(2, 1));
        refused(x, "no tongue", INDEX, () -> x.bringBack(0, 3));
        x.annex(0, 1, 10);
        x.record(0, 1);
        refused(x, "recorded", STATE, () -> x.bringBack(0, 1));
        x.wipe(0, 1);
        due("wiped", x.bringBack(0, 1), 10);
    }

    private static void promise9() {
        SighTreaties x = with("0B40");
        undoable(x, "cast(1,2,120)", 80, () -> x.cast(1, 2, 120));
        undoable(x, "cast(1,2,20)", 120, () -> x.cast(1, 2, 20));
        due("the others stay", x.staminaOf(1, 1), 70);
        refused(x, "19", ARGUMENT, () -> x.cast(1, 2, 19));
        refused(x, "121", ARGUMENT, () -> x.cast(1, 2, 121));
        refused(x, "no state 5", INDEX, () -> x.cast(5, 2, 19));
        refused(x, "no state -1", INDEX, () -> x.cast(-1, 2, 20));
        refused(x, "no tongue", INDEX, () -> x.cast(1, 3, 20));
        take(x, 0, 0, 40);
        refused(x, "used for more", STATE, () -> x.cast(1, 0, 39));
        undoable(x, "used for as many", 60, () -> x.cast(1, 0, 40));
        due("nothing is left", x.strengthLeft(1, 0), 0);
        x.wipe(0, 0);
        refused(x, "wiping gives nothing back", STATE, () -> x.cast(1, 0, 39));
        x.nextSession();
        due("a new session", x.cast(1, 0, 20), 40);
    }

    private static void promise10() {
        SighTreaties x = with("0B40~5;1B30;2C60");
        refused(x, "untranslated", STATE, () -> x.record(0, 0));
        x.translate(0, 0, 36);
        refused(x, "does not fit", STATE, () -> x.record(0, 0));
        x.translate(0, 0, 35);
        undoable(x, "record(0,0)", 20, () -> x.record(0, 0));
        refused(x, "recorded already", STATE, () -> x.record(0, 0));
        x.translate(1, 0, 21);
        refused(x, "strength 20, frames 21", STATE, () -> x.record(1, 0));
        x.translate(1, 0, 20);
        undoable(x, "record(1,0)", 0, () -> x.record(1, 0));
        due("recordings", x.recordings(), 2);
        due("recorded", x.isRecorded(1, 0), true);
        due("session", x.sessionOf(1, 0), 0);
        due("another voice", x.strengthLeft(1, 1), 70);
        refused(x, "no clause", INDEX, () -> x.record(3, 0));
        refused(x, "no tongue 3", INDEX, () -> x.record(0, 3));
        refused(x, "no tongue -1", INDEX, () -> x.record(0, -1));
        x.translate(2, 0, 60);
        undoable(x, "as much as the strength", 0, () -> x.record(2, 0));
    }

    private static void promise11() {
        SighTreaties x = mixed();
        x.nextSession();
        x.translate(2, 0, 30);
        x.record(2, 0);
        undoable(x, "wipe(2,0)", 1, () -> x.wipe(2, 0));
        due("strength does not come back", x.strengthLeft(0, 0), 30);
        due("reel 1 stays mixed", x.isMixed(1, 0), true);
        undoable(x, "wipe(1,0)", 0, () -> x.wipe(1, 0));
        due("not mixed in 0", x.isMixed(1, 0), false);
        due("no signature in 0", x.signaturesOn(1, 0), 0);
        due("mixed in 1", x.isMixed(1, 1), true);
        due("signed in 1", x.hasSigned(0, 1, 1), true);
        due("recorded in 1", x.isRecorded(1, 1), true);
        due("wiped", x.wiped(), 2);
        due("translation stays", x.framesOf(1, 0), 20);
        refused(x, "not recorded", STATE, () -> x.wipe(1, 0));
        refused(x, "no clause", INDEX, () -> x.wipe(3, 0));
        refused(x, "no tongue", INDEX, () -> x.wipe(0, 3));
        due("recorded again", x.record(1, 0), 35);
        due("its session", x.sessionOf(1, 0), 1);
        due("still not mixed", x.isMixed(1, 0), false);
    }

    private static void promise12() {
        SighTreaties x = mixed();
        due("used", x.strengthLeft(2, 0), 35);
        undoable(x, "nextSession", 1, () -> x.nextSession());
        for (int state = 0; state < 5; state++) {
            for (int tongue = 0; tongue < 3; tongue++) {
                due("whole strength", x.strengthLeft(state, tongue), 60 + 10 * tongue);
            }
        }
        due("recordings stay", x.recordedIn(0), 2);
        due("mixes stay", x.isMixed(1, 0), true);
        undoable(x, "nextSession", 2, () -> x.nextSession());
    }

    private static void promise13() {
        SighTreaties x = with("1A20;1C30~5;2A40");
        take(x, 0, 1, 13);
        refused(x, "not complete", STATE, () -> x.mix(1, 1));
        take(x, 1, 1, 21);
        undoable(x, "mix(1,1)", 11, () -> x.mix(1, 1));
        due("mixed", x.isMixed(1, 1), true);
        due("mixes", x.mixes(), 1);
        refused(x, "mixed already", STATE, () -> x.mix(1, 1));
        refused(x, "without clauses", STATE, () -> x.mix(0, 1));
        refused(x, "another tongue", STATE, () -> x.mix(1, 0));
        refused(x, "no reel 4", INDEX, () -> x.mix(4, 1));
        refused(x, "no reel -1", INDEX, () -> x.mix(-1, 1));
        refused(x, "no tongue", INDEX, () -> x.mix(1, 3));
        x.wipe(0, 1);
        x.translate(0, 1, 20);
        x.record(0, 1);
        due("mixed again", x.mix(1, 1), 4);
        due("two mixes", x.mixes(), 2);
        due("without signatures", x.signaturesOn(1, 1), 0);
    }

    private static void promise14() {
        SighTreaties x = mixed();
        refused(x, "has signed it", STATE, () -> x.sign(0, 1, 0));
        refused(x, "does not speak in it", STATE, () -> x.sign(1, 1, 0));
        refused(x, "not mixed", STATE, () -> x.sign(0, 2, 0));
        refused(x, "not mixed in 2", STATE, () -> x.sign(0, 1, 2));
        undoable(x, "sign(2,1,0)", 0, () -> x.sign(2, 1, 0));
        due("signed", x.hasSigned(2, 1, 0), true);
        due("not in 1", x.hasSigned(2, 1, 1), false);
        refused(x, "no state 5", INDEX, () -> x.sign(5, 1, 0));
        refused(x, "no state -1", INDEX, () -> x.sign(-1, 1, 0));
        refused(x, "no reel", INDEX, () -> x.sign(0, 4, 0));
        refused(x, "no tongue", INDEX, () -> x.sign(0, 1, 3));
        SighTreaties y = with("0A10;0B10;0C10;0C10;0D10;0E10");
        for (int clause = 0; clause < 6; clause++) {
            take(y, clause, 2, 10);
        }
        y.mix(0, 2);
        for (int state = 4; state >= 0; state--) {
            due("missing then", y.sign(state, 0, 2), state);
        }
    }

    private static void promise15() {
        SighTreaties x = new SighTreaties();
        due("append(33)", x.append(33), 1);
        due("append(126)", x.append(126), 2);
        refused(x, "32", ARGUMENT, () -> x.append(32));
        refused(x, "127", ARGUMENT, () -> x.append(127));
        refused(x, "-1", ARGUMENT, () -> x.append(-1));
        for (int i = 3; i <= 60; i++) {
            due("append", x.append('A'), i);
        }
        refused(x, "61 characters", STATE, () -> x.append('A'));
        refused(x, "61 characters, wrong code", ARGUMENT, () -> x.append(32));
        due("saves nothing", x.savedStates(), 0);
    }

    private static void promise16() {
        SighTreaties x = new SighTreaties();
        due("empty", x.clearBuffer(), 0);
        write(x, "0A4;x");
        due("firstError", x.firstError(), 4);
        due("five", x.clearBuffer(), 5);
        due("then empty", x.clearBuffer(), 0);
        due("firstError then", x.firstError(), 0);
        due("from the start", x.append('0'), 1);
        due("saves nothing", x.savedStates(), 0);
    }

    private static void error(String text, int want) {
        SighTreaties x = new SighTreaties();
        write(x, text);
        long before = x.digest();
        due("firstError of " + text, x.firstError(), want);
        due("firstError changes nothing", x.digest(), before);
    }

    private static void promise17() {
        error("", 0);
        String whole = "0A4~1;3E60~20;1B10~19;2C39~9;0D59;1E7";
        for (int length = 0; length <= whole.length(); length++) {
            error(whole.substring(0, length), length);
        }
        error("4A10", 0);
        error("/A10", 0);
        error("AA10", 0);
        error(";", 0);
        error("0F10", 1);
        error("0a10", 1);
        error("0@10", 1);
        error("00", 1);
        error("0A0", 2);
        error("0A~", 2);
        error("0A;", 2);
        error("0AA", 2);
        error("0A1;", 3);
        error("0A3~", 3);
        error("0A1~1", 3);
        error("0A61", 3);
        error("0A62", 3);
        error("0A70", 3);
        error("0A99", 3);
        error("0A100", 4);
        error("0A600", 4);
        error("0A4:", 3);
        error("0A4!", 3);
        error("0A4A", 3);
        error("0A4~0", 4);
        error("0A4~~", 4);
        error("0A4~;", 4);
        error("0A10~21", 6);
        error("0A10~30", 6);
        error("0A10~200", 7);
        error("0A10~1~", 6);
        error("0A10~1A", 6);
        error("0A10;;", 5);
        error("0A10;A", 5);
        error("0A10;4", 5);
        error("0A10;0A10;0A10;0A10;0A10;0A10;0A10;0A10;0A10;0A10;0A10;0A10;", 60);
        error("0A4~20", 6);
    }

    private static void unloadable(String text, int kind) {
        SighTreaties x = with("0A10");
        write(x, text);
        refused(x, "load of " + text, kind, () -> x.load());
        due("the buffer stays", x.clearBuffer(), text.length());
    }

    private static void promise18() {
        SighTreaties x = with("0A10");
        write(x, "3E60~20;1B4;2C7~7");
        due("load", x.load(), 4);
        due("saved as one", x.savedStates(), 2);
        due("buffer is cleared", x.clearBuffer(), 0);
        due("reel", x.reelOf(1), 3);
        due("speaker", x.speakerOf(1), 4);
        due("lips", x.lipsOf(1), 60);
        due("sigh", x.sighOf(1), 20);
        due("no sigh", x.sighOf(2), 0);
        due("lips", x.lipsOf(2), 4);
        due("sigh as long as lips", x.sighOf(3), 7);
        due("a sigh of 1", with("0A4~1").sighOf(0), 1);
        x.undo();
        due("undone as one", x.clauses(), 1);
        due("buffer stays cleared", x.clearBuffer(), 0);
        unloadable("", ARGUMENT);
        unloadable("0", ARGUMENT);
        unloadable("0A", ARGUMENT);
        unloadable("0A3", ARGUMENT);
        unloadable("0A10~", ARGUMENT);
        unloadable("0A10;", ARGUMENT);
        unloadable("0A10x", ARGUMENT);
        unloadable("0A61", ARGUMENT);
        unloadable("0A4~5", STATE);
        unloadable("0A4;0A4~5;0A5", STATE);
        unloadable("0A4~5;", ARGUMENT);
        SighTreaties y = full();
        write(y, "0A10");
        refused(y, "a 25th", STATE, () -> y.load());
        SighTreaties z = new SighTreaties();
        for (int i = 0; i < 22; i++) {
            z.addClause(0, 0, 10);
        }
        write(z, "0A10;0A10;0A10");
        refused(z, "to 25", STATE, () -> z.load());
        write(z, "0A10;0A10");
        due("to 24", z.load(), 24);
        SighTreaties m = mixed();
        write(m, "0B10;1B10");
        due("onto the mixed reel", m.load(), 5);
        due("not mixed", m.isMixed(1, 0) || m.isMixed(1, 1), false);
        due("not signed", m.signaturesOn(1, 0), 0);
        m.undo();
        due("mixed again", m.isMixed(1, 0) && m.isMixed(1, 1), true);
        SighTreaties again = with("1A10~5;2B20~6");
        write(again, "3C30;0D40");
        again.load();
        due("no sigh of a text before", again.sighOf(2) + again.sighOf(3), 0);
    }

    private static void promise19() {
        SighTreaties x = with("0A10");
        x.keep(0);
        due("is not undoable", x.savedStates(), 1);
        x.addClause(1, 1, 20);
        x.keep(1);
        x.addClause(2, 2, 30);
        refused(x, "slot 2", ARGUMENT, () -> { x.keep(2); return 0; });
        refused(x, "slot -1", ARGUMENT, () -> { x.keep(-1); return 0; });
        x.goBack(0);
        due("slot 0", x.clauses(), 1);
        x.goBack(1);
        due("slot 1", x.clauses(), 2);
        x.addClause(3, 3, 40);
        x.keep(0);
        x.goBack(1);
        x.goBack(0);
        due("in place of the one before", x.clauses(), 3);
        due("reel", x.reelOf(2), 3);
    }

    private static void promise20() {
        SighTreaties x = mixed();
        write(x, "0A");
        x.keep(1);
        refused(x, "slot 2", ARGUMENT, () -> { x.goBack(2); return 0; });
        refused(x, "slot -1", ARGUMENT, () -> { x.goBack(-1); return 0; });
        refused(x, "slot 0 is empty", STATE, () -> { x.goBack(0); return 0; });
        x.undo();
        x.nextSession();
        x.wipe(1, 0);
        x.cast(0, 0, 100);
        x.translate(2, 2, 9);
        x.annex(2, 2, 3);
        x.append('4');
        int saved = x.savedStates();
        x.goBack(1);
        due("undoable", x.savedStates(), Math.min(6, saved + 1));
        due("session", x.session(), 0);
        due("recorded", x.isRecorded(1, 0), true);
        due("stamina", x.staminaOf(0, 0), 60);
        due("strength", x.strengthLeft(2, 0), 35);
        due("translation", x.isTranslated(2, 2), false);
        due("annexed", x.annexOf(2), 0);
        due("mixed", x.isMixed(1, 0), true);
        due("signed", x.hasSigned(0, 1, 1), true);
        due("wiped", x.wiped(), 0);
        due("mixes", x.mixes(), 2);
        due("recordings", x.recordings(), 4);
        x.changeSigh(2, 7);
        x.goBack(1);
        due("it stays as it was", x.sighOf(2), 0);
        x.undo();
        due("sigh", x.sighOf(2), 7);
        due("the buffer stays", x.clearBuffer(), 3);
        SighTreaties z = with("0A10~5;1B20");
        z.translate(1, 2, 9);
        z.keep(0);
        z.undo();
        z.undo();
        z.addClause(3, 4, 44);
        z.goBack(0);
        due("reel of another clause 0", z.reelOf(0), 0);
        due("its speaker", z.speakerOf(0), 0);
        due("its lips", z.lipsOf(0), 10);
        due("its sigh", z.sighOf(0), 5);
        due("the translation of clause 1", z.framesOf(1, 2), 9);
        z.undo();
        due("speaker before", z.speakerOf(0), 4);
        SighTreaties y = new SighTreaties();
        y.keep(0);
        y.goBack(0);
        due("saved, though nothing changes", y.savedStates(), 1);
        y.undo();
        y.goBack(0);
        due("the slots stay", y.clauses(), 0);
    }

    private static void promise21() {
        SighTreaties x = new SighTreaties();
        for (int i = 0; i < 9; i++) {
            x.addClause(0, 0, 10 + i);
        }
        x.append('0');
        x.keep(0);
        for (int i = 8; i >= 3; i--) {
            x.undo();
            due("clauses", x.clauses(), i);
            due("saved", x.savedStates(), i - 3);
            due("lips", x.lipsOf(i - 1), 9 + i);
        }
        refused(x, "none", STATE, () -> { x.undo(); return 0; });
        due("the buffer stays", x.clearBuffer(), 1);
        x.goBack(0);
        due("the slots stay", x.clauses(), 9);
        due("no redo", x.savedStates(), 1);
    }

    private static void promise22() {
        SighTreaties x = new SighTreaties();
        for (int i = 1; i <= 8; i++) {
            x.nextSession();
            due("saved", x.savedStates(), Math.min(i, 6));
        }
        x.undo();
        due("one less", x.savedStates(), 5);
        x.nextSession();
        due("six again", x.savedStates(), 6);
        for (int i = 6; i > 0; i--) {
            x.undo();
        }
        due("the oldest were dropped", x.session(), 2);
        due("none", x.savedStates(), 0);
    }

    private static void promise23() {
        SighTreaties x = new SighTreaties();
        due("none", x.clauses(), 0);
        x.addClause(0, 0, 10);
        due("one", x.clauses(), 1);
        due("24", full().clauses(), 24);
    }

    private static void promises24To27() {
        SighTreaties x = full();
        x.changeSigh(5, 9);
        for (int clause = 0; clause < 24; clause++) {
            promise = 24;
            due("reel", x.reelOf(clause), clause % 4);
            promise = 25;
            due("speaker", x.speakerOf(clause), clause % 5);
            promise = 26;
            due("lips", x.lipsOf(clause), 10 + clause);
            promise = 27;
            due("sigh", x.sighOf(clause), clause == 5 ? 9 : 0);
        }
        SighTreaties y = with("0A10;1B20");
        int[] none = {2, -1, 23, 24, Integer.MAX_VALUE, Integer.MIN_VALUE};
        for (int clause : none) {
            promise = 24;
            refused(y, "reelOf " + clause, INDEX, () -> y.reelOf(clause));
            promise = 25;
            refused(y, "speakerOf " + clause, INDEX, () -> y.speakerOf(clause));
            promise = 26;
            refused(y, "lipsOf " + clause, INDEX, () -> y.lipsOf(clause));
            promise = 27;
            refused(y, "sighOf " + clause, INDEX, () -> y.sighOf(clause));
        }
    }

    /** No clause or no tongue: each question about a clause in a tongue throws. */
    private static void promises28To36And60OfNothing() {
        SighTreaties x = with("0A10;1B20");
        int[][] pairs = {{2, 0}, {-1, 0}, {24, 1}, {0, 3}, {0, -1}, {1, Integer.MAX_VALUE}, {Integer.MIN_VALUE, 0},
            {1, Integer.MIN_VALUE}, {Integer.MAX_VALUE, 2}};
        for (int[] pair : pairs) {
            int clause = pair[0];
            int tongue = pair[1];
            promise = 28;
            refused(x, "isTranslated", INDEX, () -> x.isTranslated(clause, tongue) ? 1 : 0);
            promise = 29;
            refused(x, "framesOf", INDEX, () -> x.framesOf(clause, tongue));
            promise = 30;
            refused(x, "annexedOf", INDEX, () -> x.annexedOf(clause, tongue));
            promise = 31;
            refused(x, "isRecorded", INDEX, () -> x.isRecorded(clause, tongue) ? 1 : 0);
            promise = 32;
            refused(x, "sessionOf", INDEX, () -> x.sessionOf(clause, tongue));
            promise = 33;
            refused(x, "roomFor", INDEX, () -> x.roomFor(clause, tongue));
            promise = 34;
            refused(x, "fits", INDEX, () -> x.fits(clause, tongue) ? 1 : 0);
            promise = 35;
            refused(x, "hundredthsOf", INDEX, () -> x.hundredthsOf(clause, tongue));
            promise = 36;
            refused(x, "reasonAgainst", INDEX, () -> x.reasonAgainst(clause, tongue));
            promise = 60;
            refused(x, "leastAnnex", INDEX, () -> x.leastAnnex(clause, tongue));
        }
    }

    private static void promises28To36() {
        SighTreaties x = with("0A30~5;1B20;2C4~4");
        promise = 28;
        due("not yet", x.isTranslated(0, 1), false);
        x.translate(0, 1, 26);
        due("translated", x.isTranslated(0, 1), true);
        due("not in 0", x.isTranslated(0, 0), false);
        due("not 1", x.isTranslated(1, 1), false);
        promise = 29;
        due("frames", x.framesOf(0, 1), 26);
        refused(x, "untranslated", STATE, () -> x.framesOf(0, 0));
        promise = 30;
        due("nothing", x.annexedOf(0, 1), 0);
        due("nothing, untranslated", x.annexedOf(0, 0), 0);
        promise = 33;
        due("below 0", x.roomFor(0, 1), -1);
        refused(x, "untranslated", STATE, () -> x.roomFor(0, 0));
        promise = 34;
        due("too long", x.fits(0, 1), false);
        due("untranslated", x.fits(0, 0), false);
        promise = 35;
        due("31 of 30", x.hundredthsOf(0, 1), 103);
        refused(x, "untranslated", STATE, () -> x.hundredthsOf(0, 0));
        promise = 36;
        due("untranslated", x.reasonAgainst(0, 0), 1);
        due("does not fit", x.reasonAgainst(0, 1), 3);
        x.annex(0, 1, 4);
        promise = 29;
        due("without what is annexed", x.framesOf(0, 1), 22);
        promise = 30;
        due("annexed", x.annexedOf(0, 1), 4);
        promise = 33;
        due("room", x.roomFor(0, 1), 3);
        x.translate(1, 1, 20);
        due("none", x.roomFor(1, 1), 0);
        promise = 34;
        due("shorter", x.fits(0, 1), true);
        due("exactly", x.fits(1, 1), true);
        promise = 35;
        due("27 of 30", x.hundredthsOf(0, 1), 90);
        due("20 of 20", x.hundredthsOf(1, 1), 100);
        x.translate(2, 0, 60);
        due("64 of 4", x.hundredthsOf(2, 0), 1600);
        promise = 36;
        due("nothing against it", x.reasonAgainst(0, 1), 0);
        x.cast(0, 1, 26);
        due("too weak", x.reasonAgainst(0, 1), 4);
        x.cast(0, 1, 27);
        due("just strong enough", x.reasonAgainst(0, 1), 0);
        promise = 31;
        due("not yet", x.isRecorded(0, 1), false);
        promise = 32;
        refused(x, "not recorded", STATE, () -> x.sessionOf(0, 1));
        x.nextSession();
        x.nextSession();
        x.record(0, 1);
        due("session", x.sessionOf(0, 1), 2);
        x.nextSession();
        due("session stays", x.sessionOf(0, 1), 2);
        promise = 31;
        due("recorded", x.isRecorded(0, 1), true);
        due("not in 2", x.isRecorded(0, 2), false);
        promise = 34;
        due("recorded, fits", x.fits(0, 1), true);
        promise = 36;
        due("recorded", x.reasonAgainst(0, 1), 2);
    }

    private static void promises37To39() {
        SighTreaties x = with("0A30~5;1A20;2B30");
        x.cast(0, 2, 100);
        take(x, 0, 2, 25);
        take(x, 1, 2, 11);
        take(x, 2, 2, 9);
        promise = 37;
        due("stamina", x.staminaOf(0, 2), 100);
        due("stamina of B", x.staminaOf(1, 2), 80);
        promise = 38;
        due("strength", x.strengthLeft(0, 2), 59);
        due("strength of B", x.strengthLeft(1, 2), 71);
        due("another tongue", x.strengthLeft(0, 1), 70);
        x.cast(0, 2, 50);
        due("of another stamina", x.strengthLeft(0, 2), 9);
        promise = 39;
        due("frames", x.framesOfVoice(0, 2), 41);
        due("frames of B", x.framesOfVoice(1, 2), 9);
        due("none", x.framesOfVoice(0, 1), 0);
        x.wipe(0, 2);
        due("of what there is", x.framesOfVoice(0, 2), 11);
        promise = 38;
        due("does not come back", x.strengthLeft(0, 2), 9);
        x.nextSession();
        due("whole", x.strengthLeft(0, 2), 50);
        promise = 39;
        due("stays", x.framesOfVoice(0, 2), 11);
        int[][] pairs = {{5, 0}, {-1, 0}, {0, 3}, {0, -1}, {Integer.MAX_VALUE, 1}, {1, Integer.MIN_VALUE}};
        for (int[] pair : pairs) {
            int state = pair[0];
            int tongue = pair[1];
            promise = 37;
            refused(x, "staminaOf", INDEX, () -> x.staminaOf(state, tongue));
            promise = 38;
            refused(x, "strengthLeft", INDEX, () -> x.strengthLeft(state, tongue));
            promise = 39;
            refused(x, "framesOfVoice", INDEX, () -> x.framesOfVoice(state, tongue));
            promise = 40;
            refused(x, "sessionsByGoing", INDEX, () -> x.sessionsByGoing(state, tongue));
            promise = 41;
            refused(x, "sessionsByTable", INDEX, () -> x.sessionsByTable(state, tongue));
        }
    }

    private static void sessions(SighTreaties x, int state, int tongue, int want) {
        promise = 40;
        due("by going", x.sessionsByGoing(state, tongue), want);
        promise = 41;
        due("by table", x.sessionsByTable(state, tongue), want);
    }

    private static void promises40And41() {
        SighTreaties x = with("0A40~2;1A40;2A40;3A20;0B60");
        sessions(x, 0, 0, 0);
        x.translate(0, 0, 28);
        x.translate(1, 0, 30);
        sessions(x, 0, 0, 1);
        x.translate(1, 0, 31);
        sessions(x, 0, 0, 2);
        x.translate(2, 0, 29);
        sessions(x, 0, 0, 2);
        x.translate(3, 0, 1);
        sessions(x, 0, 0, 3);
        x.translate(4, 0, 60);
        sessions(x, 0, 0, 3);
        sessions(x, 1, 0, 1);
        x.translate(3, 0, 21);
        sessions(x, 0, 0, 2);
        x.record(0, 0);
        sessions(x, 0, 0, 2);
        x.record(2, 0);
        x.translate(1, 0, 2);
        sessions(x, 0, 0, 2);
        x.translate(1, 0, 1);
        sessions(x, 0, 0, 1);
        x.record(1, 0);
        sessions(x, 0, 0, 0);
        x.translate(3, 0, 1);
        sessions(x, 0, 0, 2);
        x.nextSession();
        sessions(x, 0, 0, 1);
        x.cast(1, 0, 59);
        promise = 40;
        refused(x, "longer than the stamina", STATE, () -> x.sessionsByGoing(1, 0));
        promise = 41;
        refused(x, "longer than the stamina", STATE, () -> x.sessionsByTable(1, 0));
        x.cast(1, 0, 60);
        sessions(x, 1, 0, 1);
        x.translate(4, 1, 60);
        x.record(4, 1);
        sessions(x, 1, 1, 0);
        SighTreaties y = full();
        for (int clause = 0; clause < 24; clause += 5) {
            y.translate(clause, 2, 10 + clause);
        }
        y.cast(0, 2, 30);
        sessions(y, 0, 2, 4);
        SighTreaties z = new SighTreaties();
        for (int clause = 0; clause < 24; clause++) {
            z.addClause(0, 3, 20);
            z.translate(clause, 0, 20);
        }
        z.cast(3, 0, 20);
        sessions(z, 3, 0, 24);
        z.record(23, 0);
        sessions(z, 3, 0, 24);
        z.wipe(23, 0);
        sessions(z, 3, 0, 25);
        y.changeLips(20, 40);
        y.changeSigh(20, 1);
        promise = 40;
        refused(y, "by its sigh", STATE, () -> y.sessionsByGoing(0, 2));
        promise = 41;
        refused(y, "by its sigh", STATE, () -> y.sessionsByTable(0, 2));
    }

    private static void promises42To44() {
        SighTreaties x = with("0A30;2B20;2B4;2E60");
        int[] clauses = {1, 0, 3, 0};
        int[] lengths = {30, 0, 84, 0};
        for (int reel = 0; reel < 4; reel++) {
            promise = 42;
            due("clauses", x.clausesIn(reel), clauses[reel]);
            promise = 43;
            due("length", x.lengthOf(reel), lengths[reel]);
        }
        promise = 44;
        due("A in 0", x.speaksIn(0, 0), true);
        due("A in 2", x.speaksIn(0, 2), false);
        due("B in 2", x.speaksIn(1, 2), true);
        due("E in 2", x.speaksIn(4, 2), true);
        due("E in 3", x.speaksIn(4, 3), false);
        x.moveClause(3, 3);
        due("E in 3 then", x.speaksIn(4, 3), true);
        due("E in 2 then", x.speaksIn(4, 2), false);
        refused(x, "state 5", INDEX, () -> x.speaksIn(5, 0) ? 1 : 0);
        refused(x, "state -1", INDEX, () -> x.speaksIn(-1, 0) ? 1 : 0);
        refused(x, "reel 4", INDEX, () -> x.speaksIn(0, 4) ? 1 : 0);
        refused(x, "reel -1", INDEX, () -> x.speaksIn(0, -1) ? 1 : 0);
        promise = 42;
        refused(x, "reel 4", INDEX, () -> x.clausesIn(4));
        refused(x, "reel -1", INDEX, () -> x.clausesIn(-1));
        promise = 43;
        refused(x, "reel 4", INDEX, () -> x.lengthOf(4));
        refused(x, "reel -1", INDEX, () -> x.lengthOf(-1));
    }

    private static void promises45To49() {
        SighTreaties x = with("1A20;1C30~5;2A40;1C10");
        promise = 45;
        due("without clauses", x.isComplete(0, 0), false);
        due("unrecorded", x.isComplete(1, 0), false);
        take(x, 0, 0, 10);
        take(x, 1, 0, 20);
        due("one is missing", x.isComplete(1, 0), false);
        take(x, 3, 0, 10);
        due("complete", x.isComplete(1, 0), true);
        due("another tongue", x.isComplete(1, 1), false);
        x.wipe(0, 0);
        due("the first one is missing", x.isComplete(1, 0), false);
        x.undo();
        promise = 46;
        due("not mixed", x.isMixed(1, 0), false);
        promise = 49;
        due("missing, unmixed", x.missingOn(1, 0), 2);
        due("missing in tongue 2", x.missingOn(1, 2), 2);
        due("nobody speaks", x.missingOn(0, 0), 0);
        x.mix(1, 0);
        promise = 46;
        due("mixed", x.isMixed(1, 0), true);
        due("another tongue", x.isMixed(1, 1), false);
        due("another reel", x.isMixed(2, 0), false);
        promise = 47;
        due("not signed", x.hasSigned(2, 1, 0), false);
        promise = 48;
        due("none", x.signaturesOn(1, 0), 0);
        x.sign(2, 1, 0);
        due("one", x.signaturesOn(1, 0), 1);
        due("another tongue", x.signaturesOn(1, 1), 0);
        promise = 47;
        due("signed", x.hasSigned(2, 1, 0), true);
        due("not A", x.hasSigned(0, 1, 0), false);
        promise = 49;
        due("one is missing", x.missingOn(1, 0), 1);
        x.sign(0, 1, 0);
        due("none is missing", x.missingOn(1, 0), 0);
        promise = 48;
        due("two", x.signaturesOn(1, 0), 2);
        int[][] pairs = {{4, 0}, {-1, 0}, {1, 3}, {1, -1}, {Integer.MAX_VALUE, 1}, {1, Integer.MIN_VALUE}};
        for (int[] pair : pairs) {
            int reel = pair[0];
            int tongue = pair[1];
            promise = 45;
            refused(x, "isComplete", INDEX, () -> x.isComplete(reel, tongue) ? 1 : 0);
            promise = 46;
            refused(x, "isMixed", INDEX, () -> x.isMixed(reel, tongue) ? 1 : 0);
            promise = 47;
            refused(x, "hasSigned", INDEX, () -> x.hasSigned(0, reel, tongue) ? 1 : 0);
            promise = 48;
            refused(x, "signaturesOn", INDEX, () -> x.signaturesOn(reel, tongue));
            promise = 49;
            refused(x, "missingOn", INDEX, () -> x.missingOn(reel, tongue));
        }
        promise = 47;
        refused(x, "state 5", INDEX, () -> x.hasSigned(5, 1, 0) ? 1 : 0);
        refused(x, "state -1", INDEX, () -> x.hasSigned(-1, 1, 0) ? 1 : 0);
    }

    private static void promises50To53() {
        SighTreaties x = with("0A30~5;1B20;2A10;3E60");
        x.translate(0, 1, 30);
        x.translate(1, 1, 15);
        x.translate(2, 1, 10);
        x.translate(3, 1, 60);
        promise = 50;
        due("empty", x.annexOf(1), 0);
        x.annex(0, 1, 4);
        x.annex(3, 1, 50);
        due("of both", x.annexOf(1), 54);
        due("another tongue", x.annexOf(0), 0);
        promise = 52;
        due("without the misfit", x.readyByClauses(1), 15 + 10 + 10);
        promise = 53;
        due("without the misfit", x.readyByVoices(1), 15 + 10 + 10);
        x.annex(0, 1, 1);
        promise = 52;
        due("with a sigh", x.readyByClauses(1), 30 + 15 + 10 + 10);
        due("another tongue", x.readyByClauses(0), 0);
        promise = 53;
        due("with a sigh", x.readyByVoices(1), 30 + 15 + 10 + 10);
        due("another tongue", x.readyByVoices(0), 0);
        x.cast(0, 1, 20);
        due("too weak is ready, too", x.readyByVoices(1), 65);
        promise = 52;
        due("too weak is ready, too", x.readyByClauses(1), 65);
        promise = 51;
        due("none", x.recordedIn(1), 0);
        x.record(1, 1);
        x.record(3, 1);
        due("two", x.recordedIn(1), 2);
        due("another tongue", x.recordedIn(2), 0);
        promise = 52;
        due("less what is recorded", x.readyByClauses(1), 40);
        promise = 53;
        due("less what is recorded", x.readyByVoices(1), 40);
        promise = 50;
        due("recorded, annexed", x.annexOf(1), 55);
        int[] none = {3, -1, Integer.MAX_VALUE, Integer.MIN_VALUE};
        for (int tongue : none) {
            promise = 50;
            refused(x, "annexOf", INDEX, () -> x.annexOf(tongue));
            promise = 51;
            refused(x, "recordedIn", INDEX, () -> x.recordedIn(tongue));
            promise = 52;
            refused(x, "readyByClauses", INDEX, () -> x.readyByClauses(tongue));
            promise = 53;
            refused(x, "readyByVoices", INDEX, () -> x.readyByVoices(tongue));
            promise = 54;
            refused(x, "isRatified", INDEX, () -> x.isRatified(tongue) ? 1 : 0);
            promise = 55;
            refused(x, "misfitsIn", INDEX, () -> x.misfitsIn(tongue));
            promise = 62;
            refused(x, "nextClause", INDEX, () -> x.nextClause(tongue));
            promise = 65;
            refused(x, "meanFit", INDEX, () -> (long) x.meanFit(tongue));
        }
    }

    private static void promise54() {
        due("without clauses", new SighTreaties().isRatified(0), false);
        SighTreaties x = mixed();
        due("a signature is missing", x.isRatified(0), false);
        x.sign(2, 1, 0);
        due("reel 2 is not mixed", x.isRatified(0), false);
        take(x, 2, 0, 40);
        x.mix(2, 0);
        due("reel 2 is not signed", x.isRatified(0), false);
        x.sign(0, 2, 0);
        due("ratified", x.isRatified(0), true);
        due("another tongue", x.isRatified(1), false);
        x.addClause(3, 0, 10);
        due("reel 3 has a clause", x.isRatified(0), false);
        x.undo();
        x.addClause(0, 0, 10);
        due("reel 0 has a clause", x.isRatified(0), false);
        x.undo();
        x.wipe(0, 0);
        due("wiped", x.isRatified(0), false);
        SighTreaties y = with("3E10");
        take(y, 0, 2, 10);
        y.mix(3, 2);
        y.sign(4, 3, 2);
        due("a single clause", y.isRatified(2), true);
    }

    private static void promise55() {
        SighTreaties x = with("0A30~5;1B20;2A10");
        due("none is translated", x.misfitsIn(0), 0);
        x.translate(0, 0, 26);
        x.translate(1, 0, 20);
        x.translate(2, 0, 11);
        due("two", x.misfitsIn(0), 2);
        due("another tongue", x.misfitsIn(1), 0);
        x.annex(0, 0, 1);
        due("one", x.misfitsIn(0), 1);
    }

    private static void promises56To59() {
        SighTreaties x = mixed();
        promise = 56;
        due("session", x.session(), 0);
        x.nextSession();
        due("session", x.session(), 1);
        promise = 57;
        due("recordings", x.recordings(), 4);
        promise = 58;
        due("wiped", x.wiped(), 0);
        promise = 59;
        due("mixes", x.mixes(), 2);
        x.wipe(0, 0);
        x.record(0, 0);
        promise = 57;
        due("so far", x.recordings(), 5);
        promise = 58;
        due("so far", x.wiped(), 1);
        x.mix(1, 0);
        promise = 59;
        due("so far", x.mixes(), 3);
        x.undo();
        due("undone", x.mixes(), 2);
        x.undo();
        promise = 57;
        due("undone", x.recordings(), 4);
        x.undo();
        promise = 58;
        due("undone", x.wiped(), 0);
        x.undo();
        promise = 56;
        due("undone", x.session(), 0);
    }

    private static void promise60() {
        SighTreaties x = with("0A30~5;1B10~10;2A10");
        refused(x, "untranslated", STATE, () -> x.leastAnnex(0, 0));
        x.translate(0, 0, 25);
        due("it fits", x.leastAnnex(0, 0), 0);
        x.translate(0, 0, 26);
        due("one", x.leastAnnex(0, 0), 1);
        x.translate(0, 0, 60);
        due("35", x.leastAnnex(0, 0), 35);
        x.annex(0, 0, 5);
        due("30 more", x.leastAnnex(0, 0), 30);
        x.translate(1, 0, 1);
        refused(x, "none would be left", STATE, () -> x.leastAnnex(1, 0));
        x.translate(1, 0, 60);
        refused(x, "none of 60 would be left", STATE, () -> x.leastAnnex(1, 0));
        x.changeSigh(1, 9);
        due("1 is left", x.leastAnnex(1, 0), 59);
        x.translate(2, 0, 60);
        due("whether there is room or not", x.leastAnnex(2, 0), 50);
        x.translate(2, 0, 1);
        due("it fits", x.leastAnnex(2, 0), 0);
    }

    private static void promise61() {
        SighTreaties x = with("0A30~5;1B10;2A4");
        due("without translations", x.longestSigh(0), 20);
        due("not longer than the lips", x.longestSigh(1), 10);
        due("not longer than the lips", x.longestSigh(2), 4);
        x.translate(0, 0, 10);
        due("20", x.longestSigh(0), 20);
        x.translate(0, 0, 11);
        due("19", x.longestSigh(0), 19);
        x.translate(0, 2, 30);
        due("0", x.longestSigh(0), 0);
        x.translate(0, 1, 31);
        refused(x, "one does not fit", STATE, () -> x.longestSigh(0));
        x.annex(0, 1, 3);
        due("without what is annexed", x.longestSigh(0), 0);
        refused(x, "no clause", INDEX, () -> x.longestSigh(3));
        refused(x, "no clause -1", INDEX, () -> x.longestSigh(-1));
        take(x, 1, 0, 7);
        due("recorded", x.longestSigh(1), 3);
    }

    private static void promise62() {
        SighTreaties x = with("0A30;1B20~5;2A35;3B30");
        refused(x, "none", STATE, () -> x.nextClause(1));
        x.translate(0, 1, 20);
        due("the only one", x.nextClause(1), 0);
        x.translate(1, 1, 15);
        due("the lowest of two", x.nextClause(1), 0);
        x.translate(3, 1, 21);
        due("the longest", x.nextClause(1), 3);
        x.translate(1, 1, 16);
        due("its sigh is too long", x.nextClause(1), 3);
        x.translate(2, 1, 35);
        due("the longest", x.nextClause(1), 2);
        x.cast(0, 1, 34);
        due("too weak", x.nextClause(1), 3);
        x.record(3, 1);
        due("recorded", x.nextClause(1), 0);
        refused(x, "another tongue", STATE, () -> x.nextClause(0));
        SighTreaties y = with("0A10;0B10~5");
        y.translate(0, 0, 8);
        y.translate(1, 0, 4);
        due("together with the sigh", y.nextClause(0), 1);
    }

    private static void promise63() {
        SighTreaties x = with("0A10;0B10;0C10");
        due("none", x.bestTongue(), 0);
        take(x, 0, 2, 5);
        due("2", x.bestTongue(), 2);
        take(x, 0, 1, 5);
        due("the lowest of two", x.bestTongue(), 1);
        take(x, 1, 2, 5);
        due("2 again", x.bestTongue(), 2);
        take(x, 0, 0, 5);
        take(x, 1, 0, 5);
        due("0", x.bestTongue(), 0);
        x.wipe(0, 0);
        due("without what is wiped", x.bestTongue(), 2);
    }

    private static void promise64() {
        SighTreaties x = new SighTreaties();
        due("none", x.loudestState(), 0);
        x.addClause(0, 3, 20);
        due("D", x.loudestState(), 3);
        x.addClause(1, 2, 10);
        x.addClause(2, 2, 10);
        due("the lowest of two", x.loudestState(), 2);
        x.addClause(2, 4, 21);
        due("E", x.loudestState(), 4);
        x.changeLips(0, 22);
        due("D again", x.loudestState(), 3);
        x.addClause(3, 1, 60);
        due("B", x.loudestState(), 1);
        x.addClause(3, 0, 60);
        due("A", x.loudestState(), 0);
    }

    private static void promise65() {
        SighTreaties x = with("0A30~5;1B20;2A7");
        due("without any", x.meanFit(0), 0.0);
        x.translate(0, 0, 26);
        due("one", x.meanFit(0), 103.0);
        x.translate(1, 0, 10);
        due("two", x.meanFit(0), 76.5);
        x.translate(2, 0, 3);
        due("three, each rounded down", x.meanFit(0), (103 + 50 + 42) / 3.0);
        x.translate(2, 0, 4);
        due("three", x.meanFit(0), 210 / 3.0);
        x.translate(2, 0, 5);
        due("three, a third", x.meanFit(0), 224 / 3.0);
        due("another tongue", x.meanFit(1), 0.0);
    }

    private interface Maker {
        SighTreaties make();
    }

    /** Computes the digest from the other methods, on objects made anew, since nothing is promised after 512 calls. */
    private static long told(Maker maker, String buffer, boolean kept0, boolean kept1) {
        Hash h = new Hash();
        SighTreaties x = maker.make();
        int clauses = x.clauses();
        h.add(clauses);
        for (int clause = 0; clause < clauses; clause++) {
            tellClause(h, maker.make(), clause);
        }
        for (int state = 0; state < 5; state++) {
            for (int tongue = 0; tongue < 3; tongue++) {
                tellVoice(h, x, state, tongue);
            }
        }
        for (int r = 0; r < 4; r++) {
            h.add(x.clausesIn(r), x.lengthOf(r));
            for (int t = 0; t < 3; t++) {
                h.add(x.isComplete(r, t) ? 1 : 0, x.isMixed(r, t) ? 1 : 0, x.signaturesOn(r, t), x.missingOn(r, t));
            }
        }
        for (int tongue = 0; tongue < 3; tongue++) {
            tellTongue(h, x, tongue);
        }
        h.add(x.session(), x.recordings(), x.wiped(), x.mixes(), x.bestTongue(), x.loudestState(), x.savedStates());
        h.add(kept0 ? 1 : 0, kept1 ? 1 : 0);
        h.add(buffer.length());
        for (int i = 0; i < buffer.length(); i++) {
            h.add(buffer.charAt(i));
        }
        return h.hash;
    }

    private static void tellClause(Hash h, SighTreaties x, int clause) {
        h.add(x.reelOf(clause), x.speakerOf(clause), x.lipsOf(clause), x.sighOf(clause));
        h.add(orNone(() -> x.longestSigh(clause)) + 1);
        for (int t = 0; t < 3; t++) {
            int tongue = t;
            boolean translated = x.isTranslated(clause, t);
            h.add(translated ? x.framesOf(clause, t) : 0, x.annexedOf(clause, t), x.isRecorded(clause, t) ? 1 : 0,
                x.reasonAgainst(clause, t));
            if (translated) {
                h.add(x.roomFor(clause, t), x.hundredthsOf(clause, t));
                h.add(orNone(() -> x.leastAnnex(clause, tongue)) + 1);
            }
        }
    }

    private static void tellVoice(Hash h, SighTreaties x, int state, int tongue) {
        h.add(x.staminaOf(state, tongue), x.strengthLeft(state, tongue), x.framesOfVoice(state, tongue));
        h.add(orNone(() -> x.sessionsByGoing(state, tongue)) + 1);
        h.add(orNone(() -> x.sessionsByTable(state, tongue)) + 1);
    }

    private static void tellTongue(Hash h, SighTreaties x, int tongue) {
        h.add(x.annexOf(tongue), x.recordedIn(tongue), x.readyByClauses(tongue), x.readyByVoices(tongue),
            x.isRatified(tongue) ? 1 : 0, x.misfitsIn(tongue));
        h.add(orNone(() -> x.nextClause(tongue)) + 1);
        h.add(Double.doubleToLongBits(x.meanFit(tongue)));
    }

    private static final class Hash {
        long hash = 4229;

        void add(long... values) {
            for (long value : values) {
                hash = 31 * hash + value;
            }
        }
    }

    private static long orNone(Call call) {
        try {
            return call.answer();
        } catch (IllegalStateException e) {
            return -1;
        }
    }

    private static void dueDigest(String what, Maker maker, String buffer, boolean kept0, boolean kept1) {
        due(what, maker.make().digest(), told(maker, buffer, kept0, kept1));
    }

    private static SighTreaties keptWithText() {
        SighTreaties x = mixed();
        x.keep(1);
        write(x, "0A~;");
        return x;
    }

    private static SighTreaties misfits() {
        SighTreaties x = with("0A30~5;1B10~10;2A7;3A60");
        x.translate(0, 0, 31);
        x.translate(0, 1, 26);
        x.translate(1, 1, 3);
        x.translate(2, 1, 3);
        x.translate(2, 2, 7);
        x.translate(3, 2, 60);
        x.cast(0, 2, 59);
        x.annex(0, 1, 2);
        x.keep(0);
        return x;
    }

    private static SighTreaties fullAndTranslated() {
        SighTreaties x = full();
        for (int clause = 0; clause < 24; clause++) {
            x.translate(clause, 1, 1 + clause);
        }
        return x;
    }

    private static SighTreaties withMeans(int first, int second) {
        SighTreaties x = with("0A60;1B7;2C4");
        x.translate(0, 0, first);
        x.translate(1, 0, second);
        x.translate(2, 0, 60);
        x.translate(0, 1, first);
        x.translate(1, 1, second);
        x.translate(0, 2, first);
        return x;
    }

    private static void promise66() {
        dueDigest("a new one", SighTreaties::new, "", false, false);
        dueDigest("mixed", SighTreatiesPromises::mixed, "", false, false);
        dueDigest("a slot and a buffer", SighTreatiesPromises::keptWithText, "0A~;", false, true);
        dueDigest("misfits", SighTreatiesPromises::misfits, "", true, false);
        dueDigest("24 clauses", SighTreatiesPromises::fullAndTranslated, "", false, false);
        for (int frames = 1; frames <= 60; frames++) {
            int first = frames;
            dueDigest("the bits of a mean", () -> withMeans(first, 61 - first), "", false, false);
        }
        SighTreaties x = new SighTreaties();
        x.digest();
        due("saves nothing", x.savedStates(), 0);
    }

    private interface Test {
        void run();
    }

    private static void run(int number, Test test) {
        promise = number;
        test.run();
    }

    public static void main(String[] args) {
        run(1, SighTreatiesPromises::promise1);
        run(2, SighTreatiesPromises::promise2);
        run(3, SighTreatiesPromises::promise3);
        run(4, SighTreatiesPromises::promise4);
        run(5, SighTreatiesPromises::promise5);
        run(6, SighTreatiesPromises::promise6);
        run(7, SighTreatiesPromises::promise7);
        run(8, SighTreatiesPromises::promise8);
        run(9, SighTreatiesPromises::promise9);
        run(10, SighTreatiesPromises::promise10);
        run(11, SighTreatiesPromises::promise11);
        run(12, SighTreatiesPromises::promise12);
        run(13, SighTreatiesPromises::promise13);
        run(14, SighTreatiesPromises::promise14);
        run(15, SighTreatiesPromises::promise15);
        run(16, SighTreatiesPromises::promise16);
        run(17, SighTreatiesPromises::promise17);
        run(18, SighTreatiesPromises::promise18);
        run(19, SighTreatiesPromises::promise19);
        run(20, SighTreatiesPromises::promise20);
        run(21, SighTreatiesPromises::promise21);
        run(22, SighTreatiesPromises::promise22);
        run(23, SighTreatiesPromises::promise23);
        run(24, SighTreatiesPromises::promises24To27);
        run(28, SighTreatiesPromises::promises28To36And60OfNothing);
        run(28, SighTreatiesPromises::promises28To36);
        run(37, SighTreatiesPromises::promises37To39);
        run(40, SighTreatiesPromises::promises40And41);
        run(42, SighTreatiesPromises::promises42To44);
        run(45, SighTreatiesPromises::promises45To49);
        run(50, SighTreatiesPromises::promises50To53);
        run(54, SighTreatiesPromises::promise54);
        run(55, SighTreatiesPromises::promise55);
        run(56, SighTreatiesPromises::promises56To59);
        run(60, SighTreatiesPromises::promise60);
        run(61, SighTreatiesPromises::promise61);
        run(62, SighTreatiesPromises::promise62);
        run(63, SighTreatiesPromises::promise63);
        run(64, SighTreatiesPromises::promise64);
        run(65, SighTreatiesPromises::promise65);
        run(66, SighTreatiesPromises::promise66);
        System.out.println(wrong == 0 ? "all promises hold" : wrong + " answers are not as due");
        if (wrong != 0) {
            System.exit(1);
        }
    }
}
