import java.lang.reflect.InvocationTargetException;
import java.lang.reflect.Method;
import java.util.List;

/** The boundaries that the terms name, before the first promise. */
final class TermsBoundaries {
    private static final int TERMS = Boundary.TERMS;

    private TermsBoundaries() {
    }

    static void tests() {
        calls();
        clauses();
        voices();
        reels();
        snapshots();
        exceptions();
        questions();
    }

    private static void calls() {
        Boundary.test(TERMS, "An object is used for at most 512 calls after it has been made", () -> {
            SighTreaties x = new SighTreaties();
            for (int i = 1; i < 512; i++) {
                x.nextSession();
            }
            Boundary.due("call 512", x.nextSession(), 512);
            SighTreaties y = new SighTreaties();
            for (int i = 0; i < 255; i++) {
                y.addClause(0, 0, 10);
                y.undo();
            }
            Boundary.due("call 511", y.addClause(3, 4, 60), 0);
            Boundary.due("call 512", y.lipsOf(0), 60);
            SighTreaties z = new SighTreaties();
            for (int i = 0; i < 509; i++) {
                z.keep(i % 2);
            }
            z.addClause(0, 0, 10);
            z.goBack(1);
            Boundary.due("call 512, after 509 snapshots", z.clauses(), 0);
        });
    }

    private static void clauses() {
        Boundary.test(TERMS, "All numbers are integers, but for a mean; divisions are rounded down.", () -> {
            SighTreaties x = Made.with("0A60;0B59");
            x.translate(0, 0, 59);
            x.translate(1, 0, 59);
            Boundary.due("59 of 60, 98 and a third", x.hundredthsOf(0, 0), 98);
            Boundary.due("the mean of 98 and 100", x.meanFit(0), 99.0);
            x.translate(1, 0, 58);
            Boundary.due("58 of 59, 98 and more than a quarter", x.hundredthsOf(1, 0), 98);
            x.translate(1, 0, 59);
            x.translate(0, 0, 58);
            Boundary.due("the mean of 96 and 100", x.meanFit(0), 98.0);
            x.translate(0, 0, 57);
            Boundary.due("the mean of 95 and 100", x.meanFit(0), 97.5);
        });
        Boundary.test(TERMS, "There are 4 reels, 5 states and 3 tongues, numbered from 0, and at most 24 clauses, "
            + "numbered from 0 in the order in which they were added.", () -> {
                SighTreaties x = new SighTreaties();
                for (int i = 0; i < 24; i++) {
                    Boundary.due("clause", x.addClause(3 - i % 4, 4 - i % 5, 60 - i), i);
                }
                for (int i = 0; i < 24; i++) {
                    Boundary.due("lips of clause " + i, x.lipsOf(i), 60 - i);
                }
                Boundary.due("reel of the last one", x.reelOf(23), 0);
                Boundary.due("state of the last one", x.speakerOf(23), 1);
                Boundary.due("the last tongue", x.translate(23, 2, 37), 0);
                Boundary.due("one more", Boundary.answer(x, y -> y.addClause(0, 0, 10)), Boundary.STATE);
            });
        Boundary.test(TERMS, "A clause is on a reel, and is spoken by a state; lips move for 4 to 60 frames in it.", () ->
            Boundary.range(Made::empty, 4, 60, Boundary.ARGUMENT, (x, lips) -> x.addClause(3, 4, lips)));
        Boundary.test(TERMS, "It may have a sigh of 1 to 20 frames, at first none", () -> {
            Boundary.answers("at first", Made::one, 0, x -> x.sighOf(0));
            for (int frames = 1; frames <= 20; frames++) {
                int f = frames;
                SighTreaties x = Boundary.answers("a sigh of " + f, Made::one, 0, y -> y.changeSigh(0, f));
                Boundary.due("sigh", x.sighOf(0), f);
            }
            Boundary.refused("a sigh of 21", Made::one, Boundary.ARGUMENT, x -> x.changeSigh(0, 21));
            Boundary.refused("a sigh of -1", Made::one, Boundary.ARGUMENT, x -> x.changeSigh(0, -1));
        });
        Boundary.test(TERMS, "a sigh is never longer than the lips of its clause.", () -> {
            Boundary.answers("as long, by its change", () -> Made.with("0A4"), 0, x -> x.changeSigh(0, 4));
            Boundary.refused("longer, by its change", () -> Made.with("0A4"), Boundary.STATE, x -> x.changeSigh(0, 5));
            Boundary.answers("as long, by the lips", () -> Made.with("0A9~5"), 9, x -> x.changeLips(0, 5));
            Boundary.refused("longer, by the lips", () -> Made.with("0A9~5"), Boundary.STATE, x -> x.changeLips(0, 4));
            Boundary.answers("as long, by a text", () -> Made.written("0A4~4"), 1, x -> x.load());
            Boundary.refused("longer, by a text", () -> Made.written("0A4~5"), Boundary.STATE, x -> x.load());
        });
        Boundary.test(TERMS, "In each tongue a clause may be translated, with 1 frame or more.", () -> {
            Boundary.answers("1 frame", Made::one, 59, x -> x.translate(0, 2, 1));
            Boundary.refused("0 frames", Made::one, Boundary.ARGUMENT, x -> x.translate(0, 2, 0));
            Boundary.answers("1 frame is left", () -> translatedWith(20), 19, x -> x.annex(0, 0, 19));
            Boundary.refused("0 frames are left", () -> translatedWith(20), Boundary.STATE, x -> x.annex(0, 0, 20));
        });
        Boundary.test(TERMS,
            "A translation fits, if it and the sigh, together, have not more frames than the lips.", () -> {
                Boundary.answers("one less", () -> withSigh(14), true, x -> x.fits(0, 1));
                Boundary.answers("as many", () -> withSigh(15), true, x -> x.fits(0, 1));
                Boundary.answers("one more", () -> withSigh(16), false, x -> x.fits(0, 1));
            });
        Boundary.test(TERMS, "The annex of a tongue has the frames that are annexed of all its translations, at most 99.",
            () -> {
                Boundary.answers("none", Made::empty, 0, x -> x.annexOf(0));
                Boundary.answers("59 and 39", TermsBoundaries::annexedTo98, 98, x -> x.annexOf(2));
                Boundary.answers("one more, 99", TermsBoundaries::annexedTo98, 99, x -> x.annex(2, 2, 1));
                Boundary.refused("two more, 100", TermsBoundaries::annexedTo98, Boundary.STATE, x -> x.annex(2, 2, 2));
                Boundary.answers("59 of another tongue", TermsBoundaries::annexedTo98, 59, x -> x.annex(2, 1, 59));
            });
    }

    private static SighTreaties translatedWith(int frames) {
        SighTreaties x = Made.one();
        x.translate(0, 0, frames);
        return x;
    }

    /** Lips of 20 frames and a sigh of 5, translated into tongue 1. */
    private static SighTreaties withSigh(int frames) {
        SighTreaties x = Made.with("0A20~5");
        x.translate(0, 1, frames);
        return x;
    }

    private static SighTreaties annexedTo98() {
        SighTreaties x = Made.with("0A60;1B60;2C60");
        for (int clause = 0; clause < 3; clause++) {
            x.translate(clause, 1, 60);
            x.translate(clause, 2, 60);
        }
        x.annex(0, 2, 59);
        x.annex(1, 2, 39);
        return x;
    }

    private static void voices() {
        Boundary.test(TERMS, "For each state there is a voice in each tongue, with a stamina of 20 to 120 frames: "
            + "at first 60, and 10 more for each number of the tongue.", () -> {
                for (int state = 0; state < 5; state++) {
                    for (int tongue = 0; tongue < 3; tongue++) {
                        int s = state;
                        int t = tongue;
                        Boundary.answers("at first", Made::empty, 60 + 10 * t, x -> x.staminaOf(s, t));
                        Boundary.answers("20", Made::empty, 60 + 10 * t, x -> x.cast(s, t, 20));
                        Boundary.answers("120", Made::empty, 60 + 10 * t, x -> x.cast(s, t, 120));
                        Boundary.refused("19", Made::empty, Boundary.ARGUMENT, x -> x.cast(s, t, 19));
                        Boundary.refused("121", Made::empty, Boundary.ARGUMENT, x -> x.cast(s, t, 121));
                    }
                }
            });
        Boundary.test(TERMS, "In a session, its strength is its stamina less the frames that it was used for in this "
            + "session.", () -> {
                SighTreaties x = Made.with("0A60;0A60");
                Boundary.due("unused", x.strengthLeft(0, 0), 60);
                Made.take(x, 0, 0, 60);
                Boundary.due("used up", x.strengthLeft(0, 0), 0);
                x.cast(0, 0, 61);
                Boundary.due("of more stamina", x.strengthLeft(0, 0), 1);
                x.nextSession();
                Boundary.due("in the next session", x.strengthLeft(0, 0), 61);
                Made.take(x, 1, 0, 1);
                Boundary.due("used in this session alone", x.strengthLeft(0, 0), 60);
            });
        Boundary.test(TERMS, "The session is 0 at first.", () -> {
            Boundary.answers("session", Made::empty, 0, x -> x.session());
            SighTreaties x = Made.one();
            Made.take(x, 0, 0, 1);
            Boundary.due("the session of a first recording", x.sessionOf(0, 0), 0);
        });
        Boundary.test(TERMS, "Recording a clause uses the voice of its state in the tongue for the frames of the "
            + "translation and the sigh, together.", () -> {
                SighTreaties x = Made.with("3C60~20");
                Made.take(x, 0, 1, 40);
                for (int state = 0; state < 5; state++) {
                    for (int tongue = 0; tongue < 3; tongue++) {
                        int used = state == 2 && tongue == 1 ? 60 : 0;
                        Boundary.due("strength", x.strengthLeft(state, tongue), 60 + 10 * tongue - used);
                    }
                }
            });
        Boundary.test(TERMS, "The reasons against recording a clause in a tongue are, in this order: 1 it is not "
            + "translated; 2 it is recorded already; 3 the translation does not fit; 4 the strength that is left is less "
            + "than these frames.", TermsBoundaries::reasons);
        Boundary.test(TERMS, "A clause is ready in a tongue, if none of the first three holds.", () -> {
            SighTreaties x = Made.with("0A30;0A30");
            Boundary.due("1, not translated", x.readyByClauses(0), 0);
            x.translate(0, 0, 31);
            Boundary.due("3, does not fit", x.readyByClauses(0), 0);
            x.translate(0, 0, 30);
            Boundary.due("fits", x.readyByClauses(0), 30);
            x.cast(0, 0, 29);
            Boundary.due("4, too weak, is ready", x.readyByClauses(0), 30);
            x.cast(0, 0, 30);
            x.record(0, 0);
            Boundary.due("2, recorded", x.readyByClauses(0), 0);
        });
    }

    private static void reasons() {
        SighTreaties x = Made.with("0A40~4;1A60");
        x.cast(0, 0, 40);
        Boundary.due("1", x.reasonAgainst(0, 0), 1);
        x.translate(0, 0, 37);
        Boundary.due("3, though 4 holds, too", x.reasonAgainst(0, 0), 3);
        x.translate(0, 0, 36);
        Boundary.due("0, with as much strength", x.reasonAgainst(0, 0), 0);
        x.cast(0, 0, 39);
        Boundary.due("4, with one less", x.reasonAgainst(0, 0), 4);
        x.cast(0, 0, 40);
        x.record(0, 0);
        Boundary.due("2, though 4 holds, too", x.reasonAgainst(0, 0), 2);
        x.translate(1, 0, 1);
        Boundary.due("4, without strength", x.reasonAgainst(1, 0), 4);
        x.wipe(0, 0);
        Boundary.due("4, wiped", x.reasonAgainst(0, 0), 4);
        Boundary.due("1 in another tongue", x.reasonAgainst(0, 1), 1);
    }

    private static void reels() {
        Boundary.test(TERMS, "A reel that is mixed in a tongue can be signed by the states that speak in it.", () -> {
            for (int state = 0; state < 5; state++) {
                int s = state;
                Boundary.answers("sign", Made::council, 4, x -> x.sign(s, 0, 1));
                Boundary.refused("not mixed", Made::complete, Boundary.STATE, x -> x.sign(s, 0, 1));
                if (s > 0) {
                    Boundary.refused("does not speak in it", Made::council, Boundary.STATE, x -> x.sign(s, 1, 1));
                }
            }
        });
        Boundary.test(TERMS, "When it is not mixed any more, its signatures in this tongue are gone.", () -> {
            gone("a clause more", 2, x -> x.addClause(0, 4, 10));
            gone("a clause that is moved", 2, x -> x.moveClause(3, 0));
            SighTreaties y = Made.signed();
            y.wipe(2, 1);
            Boundary.due("wiped", y.signaturesOn(0, 1), 0);
            Boundary.due("wiped, missing", y.missingOn(0, 1), 5);
            Boundary.due("in the tongue before", y.signaturesOn(0, 0), 5);
            Boundary.due("in the tongue behind", y.signaturesOn(0, 2), 5);
            Boundary.due("on another reel", y.signaturesOn(1, 1), 1);
            y.record(2, 1);
            y.mix(0, 1);
            for (int state = 0; state < 5; state++) {
                Boundary.due("mixed again", y.hasSigned(state, 0, 1), false);
            }
        });
    }

    private static void gone(String what, int reelBeside, Boundary.Call call) {
        SighTreaties x = Made.mixed();
        call.on(x);
        for (int tongue = 0; tongue < 3; tongue++) {
            Boundary.due(what + ", mixed", x.isMixed(0, tongue), false);
            Boundary.due(what + ", signatures", x.signaturesOn(0, tongue), 0);
            Boundary.due(what + ", signed", x.hasSigned(0, 0, tongue), false);
            Boundary.due(what + ", beside", x.isMixed(reelBeside, tongue), false);
        }
    }

    private static void snapshots() {
        Boundary.test(TERMS, "There are two slots; a snapshot is all but the buffer, the slots and the saved states.", () -> {
            SighTreaties x = Made.recorded();
            SighTreaties same = Made.recorded();
            x.keep(0);
            changeAll(x);
            x.keep(1);
            Made.write(x, "1B");
            x.undo();
            int saved = x.savedStates();
            x.goBack(0);
            Boundary.due("saved states go on", x.savedStates(), saved + 1);
            Boundary.due("the buffer stays", x.clearBuffer(), 2);
            for (int clause = 0; clause < 3; clause++) {
                for (int tongue = 0; tongue < 3; tongue++) {
                    Boundary.due("session", x.sessionOf(clause, tongue), same.sessionOf(clause, tongue));
                    Boundary.due("annexed", x.annexedOf(clause, tongue), same.annexedOf(clause, tongue));
                }
            }
            x.goBack(1);
            Boundary.due("the other slot stays", x.session(), 2);
            x.goBack(0);
            same.keep(0);
            sameSaved(x, same);
            Made.write(x, "3E6");
            Boundary.due("all the rest", x.digest(), same.digest());
        });
        Boundary.test(TERMS, "Each method that is marked \"undoable\" and does not throw an exception saves the state from "
            + "before it, also if it changes nothing", () -> {
                Boundary.saves("the same lips", Made::translated, x -> x.changeLips(0, 20));
                Boundary.saves("the same sigh", Made::translated, x -> x.changeSigh(0, 4));
                Boundary.saves("the same translation", Made::mixed, x -> {
                    x.translate(2, 0, 7);
                    x.undo();
                    return x.translate(2, 0, 7);
                });
                Boundary.saves("the same stamina", Made::translated, x -> x.cast(0, 0, 60));
                Boundary.saves("the same snapshot", Made::empty, x -> {
                    x.keep(0);
                    x.goBack(0);
                    return 0;
                });
            });
        Boundary.test(TERMS, "all but the buffer, the slots and the saved states.", () -> {
            SighTreaties x = Made.one();
            x.nextSession();
            x.keep(0);
            Made.write(x, "12345");
            x.undo();
            Boundary.due("the buffer", x.clearBuffer(), 5);
            x.goBack(0);
            Boundary.due("the slot", x.session(), 1);
            x.undo();
            x.undo();
            Boundary.due("undone before", x.clauses(), 0);
        });
        Boundary.test(TERMS, "At most 6 states are saved; the oldest one is dropped first.", () -> {
            for (int calls = 0; calls <= 14; calls++) {
                SighTreaties x = new SighTreaties();
                for (int i = 0; i < calls; i++) {
                    x.nextSession();
                }
                int saved = Math.min(calls, 6);
                Boundary.due("saved of " + calls, x.savedStates(), saved);
                for (int i = 1; i <= saved; i++) {
                    x.undo();
                    Boundary.due("session of " + calls, x.session(), calls - i);
                }
                Boundary.due("no more of " + calls, Boundary.answer(x, Boundary.call(y -> y.undo())), Boundary.STATE);
            }
        });
    }

    private static void changeAll(SighTreaties x) {
        x.nextSession();
        x.wipe(0, 0);
        x.translate(0, 0, 9);
        x.annex(0, 0, 2);
        x.cast(4, 1, 119);
        x.addClause(3, 3, 33);
        x.changeSigh(3, 3);
        x.changeLips(3, 34);
        Made.take(x, 3, 2, 30);
        x.mix(3, 2);
        x.sign(3, 3, 2);
    }

    /** Brings the other one to as many saved states, all of them changing nothing. */
    private static void sameSaved(SighTreaties x, SighTreaties same) {
        Boundary.fillSaved(x);
        Boundary.fillSaved(same);
    }

    private static void exceptions() {
        Boundary.test(TERMS, "A call that throws an exception changes nothing (the buffer stays as it is, too).", () -> {
            Boundary.refused("a text with an error", () -> Made.written("0A4;0A61"), Boundary.ARGUMENT, x -> x.load());
            Boundary.refused("a text that ends too early", () -> Made.written("0A4;"), Boundary.ARGUMENT, x -> x.load());
            Boundary.refused("the last sigh is too long", () -> Made.written("0A4;3E60~20;1B19~20"), Boundary.STATE,
                x -> x.load());
            Boundary.refused("no room in the buffer", TermsBoundaries::fullBuffer, Boundary.STATE, x -> x.append('0'));
            Boundary.refused("no saved state", () -> Made.written("0A4"), Boundary.STATE, Boundary.call(x -> x.undo()));
        });
        Boundary.test(TERMS,
            "If several exceptions apply, the one that is named first in the throws clause is thrown.", () -> {
                severalOfClauses();
                severalOfTranslations();
                severalOfTexts();
            });
    }

    private static SighTreaties fullBuffer() {
        SighTreaties x = new SighTreaties();
        for (int i = 0; i < 60; i++) {
            x.append(33 + i);
        }
        return x;
    }

    private static void severalOfClauses() {
        Boundary.refused("no reel, wrong lips, 24", Made::full, Boundary.INDEX, x -> x.addClause(4, 0, 61));
        Boundary.refused("no state, wrong lips, 24", Made::full, Boundary.INDEX, x -> x.addClause(0, -1, 3));
        Boundary.refused("no reel, 24", Made::full, Boundary.INDEX, x -> x.addClause(-1, 0, 10));
        Boundary.refused("wrong lips, 24", Made::full, Boundary.ARGUMENT, x -> x.addClause(0, 0, 3));
        Boundary.refused("no state, wrong lips", Made::empty, Boundary.INDEX, x -> x.addClause(0, 5, 61));
        Boundary.refused("no clause, wrong lips", Made::one, Boundary.INDEX, x -> x.changeLips(1, 61));
        Boundary.refused("wrong lips, recorded", Made::recorded, Boundary.ARGUMENT, x -> x.changeLips(0, 61));
        Boundary.refused("lips below the sigh, and below 4", () -> Made.with("0A4~4"), Boundary.ARGUMENT,
            x -> x.changeLips(0, 3));
        Boundary.refused("no clause, wrong sigh", Made::one, Boundary.INDEX, x -> x.changeSigh(1, 21));
        Boundary.refused("wrong sigh, recorded", Made::recorded, Boundary.ARGUMENT, x -> x.changeSigh(0, -1));
        Boundary.refused("wrong sigh, beyond the lips", () -> Made.with("0A4"), Boundary.ARGUMENT,
            x -> x.changeSigh(0, 21));
        Boundary.refused("no reel, recorded", Made::recorded, Boundary.INDEX, x -> x.moveClause(0, 4));
    }

    private static void severalOfTranslations() {
        Boundary.refused("no clause, no frames", Made::one, Boundary.INDEX, x -> x.translate(1, 0, 0));
        Boundary.refused("no tongue, too many frames", Made::recorded, Boundary.INDEX, x -> x.translate(0, 3, 61));
        Boundary.refused("too many frames, recorded", Made::recorded, Boundary.ARGUMENT, x -> x.translate(0, 0, 61));
        Boundary.refused("no tongue, nothing to annex", Made::one, Boundary.INDEX, x -> x.annex(0, -1, 60));
        Boundary.refused("too many frames, untranslated", Made::one, Boundary.ARGUMENT, x -> x.annex(0, 0, 60));
        Boundary.refused("no frames, untranslated", Made::one, Boundary.ARGUMENT, x -> x.annex(0, 0, 0));
        Boundary.refused("no frames, recorded", Made::recorded, Boundary.ARGUMENT, x -> x.annex(0, 0, 0));
        Boundary.refused("no tongue, nothing annexed", Made::one, Boundary.INDEX, x -> x.bringBack(0, 3));
        Boundary.refused("no voice, wrong stamina", Made::recorded, Boundary.INDEX, x -> x.cast(5, 0, 19));
        Boundary.refused("wrong stamina, used for more", Made::recorded, Boundary.ARGUMENT, x -> x.cast(0, 2, -1));
        Boundary.refused("no tongue, untranslated", Made::one, Boundary.INDEX, x -> x.record(0, 3));
        Boundary.refused("no tongue, unrecorded", Made::one, Boundary.INDEX, x -> x.wipe(0, -1));
        Boundary.refused("no tongue, not complete", Made::one, Boundary.INDEX, x -> x.mix(0, 3));
        Boundary.refused("no state, not mixed", Made::one, Boundary.INDEX, x -> x.sign(5, 0, 0));
        Boundary.refused("no reel, not mixed", Made::one, Boundary.INDEX, x -> x.sign(0, 4, 0));
        Boundary.refused("no tongue, not mixed", Made::one, Boundary.INDEX, x -> x.sign(0, 0, 3));
        Boundary.refused("no tongue, no clause", Made::empty, Boundary.INDEX, x -> x.nextClause(3));
        Boundary.refused("no tongue, untranslated", Made::one, Boundary.INDEX, x -> x.framesOf(0, 3));
    }

    private static void severalOfTexts() {
        Boundary.refused("a wrong code, a full buffer", TermsBoundaries::fullBuffer, Boundary.ARGUMENT,
            x -> x.append(32));
        Boundary.refused("an error, a sigh beyond its lips", () -> Made.written("0A4~5;0A4x"), Boundary.ARGUMENT,
            x -> x.load());
        Boundary.refused("an error, 24 clauses", Made::full, Boundary.ARGUMENT, x -> x.load());
        Boundary.refused("no slot, no snapshot", Made::empty, Boundary.ARGUMENT, Boundary.call(x -> x.goBack(2)));
        Boundary.refused("no slot, no snapshot", Made::empty, Boundary.ARGUMENT, Boundary.call(x -> x.goBack(-1)));
    }

    // ---- questions

    private static void questions() {
        Boundary.test(TERMS, "---- clauses as they are; nothing is changed.", () -> nothingChanged("clauses", "reelOf",
            "speakerOf", "lipsOf", "sighOf", "isTranslated", "framesOf", "annexedOf", "isRecorded", "sessionOf",
            "roomFor", "fits", "hundredthsOf", "reasonAgainst"));
        Boundary.test(TERMS, "---- voices; nothing is changed.", () -> nothingChanged("staminaOf", "strengthLeft",
            "framesOfVoice", "sessionsByGoing", "sessionsByTable"));
        Boundary.test(TERMS, "---- reels; nothing is changed.", () -> nothingChanged("clausesIn", "lengthOf", "speaksIn",
            "isComplete", "isMixed", "hasSigned", "signaturesOn", "missingOn"));
        Boundary.test(TERMS, "---- tongues, accounts; nothing is changed.", () -> nothingChanged("annexOf", "recordedIn",
            "readyByClauses", "readyByVoices", "isRatified", "misfitsIn", "session", "recordings", "wiped", "mixes"));
        Boundary.test(TERMS, "---- what would be; nothing is changed.", () -> nothingChanged("leastAnnex", "longestSigh",
            "nextClause", "bestTongue", "loudestState", "meanFit", "digest"));
    }

    private static void nothingChanged(String... names) {
        for (Method method : SighTreaties.class.getDeclaredMethods()) {
            if (List.of(names).contains(method.getName())) {
                for (int first = -1; first <= 2; first++) {
                    nothingChangedBy(method, first);
                }
            }
        }
    }

    private static void nothingChangedBy(Method method, int first) {
        Object[] args = new Object[method.getParameterCount()];
        for (int i = 0; i < args.length; i++) {
            args[i] = first == 1 ? (i + 1) % 3 : first;
        }
        for (Boundary.Maker maker : List.<Boundary.Maker>of(Made::empty, Made::translated, Made::mixed)) {
            Boundary.unchanging(method.getName(), maker, x -> asked(method, x, args));
        }
    }

    private static Object asked(Method method, SighTreaties x, Object[] args) {
        try {
            return method.invoke(x, args);
        } catch (InvocationTargetException e) {
            return "throws";
        } catch (IllegalAccessException e) {
            throw new IllegalStateException(e);
        }
    }
}
