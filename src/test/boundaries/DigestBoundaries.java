import java.util.ArrayList;
import java.util.List;

/** The boundaries of promise 66: where the digest tells 0 for what there is not, and where its number wraps around. */
final class DigestBoundaries {
    private static final int DIGEST = 66;

    private DigestBoundaries() {
    }

    static void tests() {
        beginning();
        clauses();
        voices();
        tongues();
        rest();
    }

    // ---- the same list, told by the other methods

    private static long oneMore(SighTreaties x, Boundary.Call call) {
        Object answer = Boundary.answer(x, call);
        return answer instanceof Long ? (Long) answer + 1 : 0;
    }

    private static void tellClause(List<Number> all, SighTreaties x, int clause) {
        all.addAll(List.of(x.reelOf(clause), x.speakerOf(clause), x.lipsOf(clause), x.sighOf(clause)));
        all.add(oneMore(x, y -> y.longestSigh(clause)));
        for (int t = 0; t < 3; t++) {
            int tongue = t;
            all.add(x.isTranslated(clause, t) ? x.framesOf(clause, t) : 0);
            all.addAll(List.of(x.annexedOf(clause, t), x.isRecorded(clause, t) ? 1 : 0, x.reasonAgainst(clause, t)));
            if (x.isTranslated(clause, t)) {
                all.addAll(List.of(x.roomFor(clause, t), x.hundredthsOf(clause, t)));
                all.add(oneMore(x, y -> y.leastAnnex(clause, tongue)));
            }
        }
    }

    private static void tellVoices(List<Number> all, SighTreaties x) {
        for (int s = 0; s < 5; s++) {
            for (int t = 0; t < 3; t++) {
                int state = s;
                int tongue = t;
                all.addAll(List.of(x.staminaOf(s, t), x.strengthLeft(s, t), x.framesOfVoice(s, t)));
                all.add(oneMore(x, y -> y.sessionsByGoing(state, tongue)));
                all.add(oneMore(x, y -> y.sessionsByTable(state, tongue)));
            }
        }
    }

    private static void tellReels(List<Number> all, SighTreaties x) {
        for (int r = 0; r < 4; r++) {
            all.addAll(List.of(x.clausesIn(r), x.lengthOf(r)));
            for (int t = 0; t < 3; t++) {
                all.addAll(List.of(x.isComplete(r, t) ? 1 : 0, x.isMixed(r, t) ? 1 : 0));
                all.addAll(List.of(x.signaturesOn(r, t), x.missingOn(r, t)));
            }
        }
    }

    private static void tellTongues(List<Number> all, SighTreaties x) {
        for (int t = 0; t < 3; t++) {
            int tongue = t;
            all.addAll(List.of(x.annexOf(t), x.recordedIn(t), x.readyByClauses(t), x.readyByVoices(t)));
            all.addAll(List.of(x.isRatified(t) ? 1 : 0, x.misfitsIn(t)));
            all.add(oneMore(x, y -> y.nextClause(tongue)));
            all.add(Double.doubleToLongBits(x.meanFit(t)));
        }
    }

    /** A new object for each clause, since none is asked more than 512 times. */
    private static long told(Boundary.Maker maker, String slots, String buffer) {
        List<Number> all = new ArrayList<>();
        int clauses = maker.make().clauses();
        all.add(clauses);
        for (int clause = 0; clause < clauses; clause++) {
            tellClause(all, maker.make(), clause);
        }
        SighTreaties x = maker.make();
        tellVoices(all, x);
        tellReels(all, x);
        tellTongues(all, x);
        all.addAll(List.of(x.session(), x.recordings(), x.wiped(), x.mixes(), x.bestTongue(), x.loudestState()));
        all.add(x.savedStates());
        all.add(slots.contains("0") ? 1 : 0);
        all.add(slots.contains("1") ? 1 : 0);
        all.add(buffer.length());
        for (char sign : buffer.toCharArray()) {
            all.add((int) sign);
        }
        long hash = 4229;
        for (Number value : all) {
            hash = 31 * hash + value.longValue();
        }
        return hash;
    }

    private static void same(String what, Boundary.Maker maker, String slots, String buffer) {
        Boundary.answers(what, maker, told(maker, slots, buffer), x -> x.digest());
    }

    // ---- the tests

    private static void beginning() {
        Boundary.test(DIGEST, "The hash starts at 4229.", () -> same("a new object", Made::empty, "", ""));
        Boundary.test(DIGEST, "For each value v of the following list, in order, the hash becomes 31 * hash + v, in long "
            + "arithmetic with overflow.", () -> {
                same("24 clauses", Made::full, "", "0");
                same("24 clauses, all translated", DigestBoundaries::fullAndTranslated, "", "0");
                same("four clauses", Made::mixed, "1", "3E6");
                same("signed", Made::signed, "1", "3E6");
            });
        Boundary.test(DIGEST, "Computes a hash of the whole state.", () -> {
            SighTreaties x = Made.mixed();
            long digest = x.digest();
            Boundary.due("once more", x.digest(), digest);
            x.append('!');
            Boundary.due("with a character", x.digest() == digest, false);
            x.keep(0);
            x.nextSession();
            Boundary.due("of another session", x.digest() == digest, false);
        });
    }

    private static SighTreaties fullAndTranslated() {
        SighTreaties x = Made.full();
        for (int clause = 0; clause < 24; clause++) {
            for (int tongue = 0; tongue < 3; tongue++) {
                x.translate(clause, tongue, 1 + (clause * 7 + tongue * 20) % 60);
            }
        }
        return x;
    }

    private static SighTreaties translatedWith(String text, int tongue, int frames) {
        SighTreaties x = Made.with(text);
        x.translate(0, tongue, frames);
        return x;
    }

    private static void clauses() {
        Boundary.test(DIGEST, "the longest sigh and 1, together, 0 if it throws", () -> {
            same("0 and 1", () -> translatedWith("0A60", 2, 60), "1", "3E6");
            same("it throws", () -> translatedWith("0A59", 2, 60), "1", "3E6");
            same("20 and 1", () -> translatedWith("0A60", 2, 1), "1", "3E6");
        });
        Boundary.test(DIGEST, "framesOf (0 if it is not translated)", () -> {
            same("not translated", Made::one, "1", "3E6");
            same("in one tongue", () -> translatedWith("0A20", 0, 1), "1", "3E6");
        });
        Boundary.test(DIGEST, "1 if it is recorded, otherwise 0, reasonAgainst", () -> {
            same("translated", Made::translated, "1", "3E6");
            same("recorded", Made::recorded, "1", "3E6");
        });
        Boundary.test(DIGEST, "if it is translated roomFor, hundredthsOf, and leastAnnex and 1, together, 0 if it throws",
            () -> {
                same("0 and 1", () -> translatedWith("0A20", 1, 20), "1", "3E6");
                same("1 and 1", () -> translatedWith("0A20", 1, 21), "1", "3E6");
                same("59 and 1", () -> translatedWith("0A4~3", 1, 60), "1", "3E6");
                same("it throws", () -> translatedWith("0A4~4", 1, 60), "1", "3E6");
            });
    }

    private static SighTreaties cast(int stamina, int frames) {
        SighTreaties x = Made.with("0E60;0E60");
        x.translate(0, 1, frames);
        x.translate(1, 1, frames);
        x.cast(4, 1, stamina);
        return x;
    }

    private static void voices() {
        Boundary.test(DIGEST, "then the sessions by going and by a table, each with 1 more, 0 for both if they throw", () -> {
            same("as long as the stamina", () -> cast(40, 40), "1", "3E6");
            same("they throw", () -> cast(40, 41), "1", "3E6");
            same("one session", () -> cast(40, 20), "1", "3E6");
            same("nothing ready", Made::one, "1", "3E6");
        });
        Boundary.test(DIGEST, "1 if it is complete, otherwise 0, 1 if it is mixed, otherwise 0", () -> {
            same("complete", Made::complete, "1", "3E6");
            same("mixed", Made::council, "1", "3E6");
        });
    }

    private static SighTreaties withMean(int frames, int clauses) {
        SighTreaties x = Made.with("0A60;0A7;0A4~4;0A59");
        for (int clause = 0; clause < clauses; clause++) {
            x.translate(clause, clause % 2 == 0 ? 0 : 2, frames);
            x.translate(clause, 1, 1 + (frames + clause) % 60);
        }
        return x;
    }

    private static void tongues() {
        Boundary.test(DIGEST, "1 if it is ratified, otherwise 0", () -> {
            same("ratified", Made::signed, "1", "3E6");
            same("not ratified in one tongue", () -> {
                SighTreaties x = Made.signed();
                x.wipe(0, 1);
                return x;
            }, "1", "3E6");
        });
        Boundary.test(DIGEST, "the next clause and 1, together, 0 if there is none", () -> {
            same("0 and 1", () -> translatedWith("0A20", 1, 20), "1", "3E6");
            same("none", () -> translatedWith("0A20", 1, 21), "1", "3E6");
            same("23 and 1", () -> {
                SighTreaties x = Made.full();
                x.translate(23, 0, 1);
                return x;
            }, "", "0");
        });
        Boundary.test(DIGEST, "the bits of meanFit (as Double.doubleToLongBits)", () -> {
            same("0.0", Made::one, "1", "3E6");
            same("1.0", () -> translatedWith("0A60", 0, 1), "1", "3E6");
            same("1600.0", () -> translatedWith("0A4~4", 0, 60), "1", "3E6");
            for (int frames = 1; frames <= 60; frames++) {
                int f = frames;
                for (int clauses = 1; clauses <= 4; clauses++) {
                    int c = clauses;
                    same("a mean of " + c, () -> withMean(f, c), "1", "3E6");
                }
            }
            for (int clauses = 5; clauses <= 24; clauses++) {
                int c = clauses;
                same("a mean of " + c, () -> meanOfMany(c), "", "");
            }
        });
    }

    private static SighTreaties meanOfMany(int clauses) {
        SighTreaties x = Made.some(clauses);
        for (int clause = 0; clause < clauses; clause++) {
            x.translate(clause, 0, 1 + clause * clause % 60);
        }
        return x;
    }

    private static void rest() {
        Boundary.test(DIGEST, "bestTongue, loudestState, savedStates", () -> {
            for (int calls = 0; calls <= 7; calls++) {
                int c = calls;
                same(c + " calls", () -> inSession(c), "", "");
            }
        });
        Boundary.test(DIGEST, "for each slot 1 if it has a snapshot, otherwise 0", () -> {
            for (String slots : new String[] {"", "0", "1", "01"}) {
                same("slots " + slots, () -> kept(slots), slots, "");
            }
        });
        Boundary.test(DIGEST, "the length of the buffer and each of its character codes.", () -> {
            StringBuilder full = new StringBuilder();
            for (int i = 0; i < 60; i++) {
                full.append((char) (126 - i));
            }
            for (String text : new String[] {"", "!", "~", "!~", full.toString()}) {
                same("buffer " + text, () -> Made.written(text), "", text);
            }
        });
    }

    private static SighTreaties inSession(int session) {
        SighTreaties x = Made.empty();
        for (int i = 0; i < session; i++) {
            x.nextSession();
        }
        return x;
    }

    private static SighTreaties kept(String slots) {
        SighTreaties x = Made.empty();
        for (char slot : slots.toCharArray()) {
            x.keep(slot - '0');
        }
        return x;
    }
}
