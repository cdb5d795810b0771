import java.util.ArrayList;
import java.util.List;

/** The boundaries of the input text and of promises 15 to 18: the buffer, its errors, and loading. */
final class TextBoundaries {
    private static final int TERMS = Boundary.TERMS;
    private static final String DIGITS = "0123456789";

    /** 60 characters without an error that tell twelve clauses; the last one has a sigh as long as its lips. */
    private static final String WHOLE_60 = "0A10;1B20;2C30;3D40;0E50;1A60;2B11;3C21;0D31;1E41;2A51;3B4~4";

    /** 59 characters that tell fifteen clauses, the most that a buffer has room for. */
    private static final String FIFTEEN = "0A4;1B5;2C6;3D7;0E8;1A9;2B4;3C5;0D6;1E7;2A8;3B9;0C4;1D5;2E6";

    private TextBoundaries() {
    }

    static void tests() {
        append();
        clearBuffer();
        parts();
        numbers();
        errors();
        firstError();
        load();
        loadOfEdges();
        loadRefused();
    }

    // ---- promises 15 and 16

    private static SighTreaties filled(int signs) {
        SighTreaties x = Made.one();
        x.clearBuffer();
        for (int i = 0; i < signs; i++) {
            x.append(33 + i);
        }
        return x;
    }

    private static void append() {
        Boundary.test(TERMS, "The buffer has at most 60 characters.", () -> {
            Boundary.answers("the last one", () -> filled(59), 60, x -> x.append('~'));
            Boundary.refused("one more", () -> filled(60), Boundary.STATE, x -> x.append('~'));
        });
        Boundary.test(15, "- `code`: the character code, 33 to 126", () -> {
            for (int code = 33; code <= 126; code++) {
                int c = code;
                long grown = 31 * (Made.empty().digest() + 1) + c;
                SighTreaties x = Boundary.answers("append " + c, Made::empty, 1, y -> y.append(c));
                Boundary.due("its code", x.digest(), grown);
            }
        });
        Boundary.test(15, "Returns the new length of the buffer.", () -> {
            SighTreaties x = Made.empty();
            for (int length = 1; length <= 60; length++) {
                Boundary.due("length", x.append('0'), length);
            }
            x.clearBuffer();
            Boundary.due("after it is cleared", x.append('0'), 1);
        });
        Boundary.test(15, "Throws `IllegalArgumentException` if code is not 33 to 126", () -> {
            Boundary.range(Made::one, 33, 126, Boundary.ARGUMENT, (x, code) -> x.append(code));
            for (int code : new int[] {0, 10, 32, 127, 128, 255, 256 + 'A', 65536 + 'A', -'A'}) {
                Boundary.refused("code " + code, Made::one, Boundary.ARGUMENT, x -> x.append(code));
            }
        });
        Boundary.test(15, "Throws `IllegalStateException` if the buffer has 60 characters", () -> {
            Boundary.answers("59", () -> filled(59), 60, x -> x.append(33));
            for (int code : new int[] {33, ';', 126}) {
                Boundary.refused("60", () -> filled(60), Boundary.STATE, x -> x.append(code));
            }
            SighTreaties x = filled(60);
            x.clearBuffer();
            Boundary.due("cleared", x.append(33), 1);
        });
    }

    private static void clearBuffer() {
        Boundary.test(16, "Returns the length that it had.", () -> {
            for (int length : new int[] {0, 1, 59, 60}) {
                int l = length;
                SighTreaties x = Boundary.answers("length " + l, () -> filled(l), l, y -> y.clearBuffer());
                Boundary.due("empty then", x.clearBuffer(), 0);
            }
        });
        Boundary.test(16, "Clears the buffer.", () -> {
            SighTreaties x = filled(60);
            long empty = filled(0).digest();
            x.clearBuffer();
            Boundary.due("as if there had been none", x.digest(), empty);
            Boundary.due("no error", x.firstError(), 0);
        });
    }

    // ---- the text, character by character

    /** Behind this beginning these characters are no errors, and all others that a buffer takes are. */
    private static void next(String beginning, String signs) {
        for (char sign = 33; sign <= 126; sign++) {
            String text = beginning + sign;
            int error = beginning.length() + (signs.indexOf(sign) < 0 ? 0 : 1);
            Boundary.answers("first error of " + text, () -> Made.written(text), error, x -> x.firstError());
        }
    }

    private static void parts() {
        Boundary.test(TERMS, "one or more parts with \";\" between them", () -> {
            next("0A4;", "0123");
            next("0A10;", "0123");
            next("3E60~20;", "0123");
            next("0A4;1B5;", "0123");
            next(FIFTEEN, "0~;");
            loaded("0A4", 1);
            loaded("0A4;0A4", 2);
            unloadable("", Boundary.ARGUMENT);
            unloadable(";", Boundary.ARGUMENT);
            unloadable("0A4;", Boundary.ARGUMENT);
            unloadable(";0A4", Boundary.ARGUMENT);
            unloadable("0A4;;0A4", Boundary.ARGUMENT);
        });
        Boundary.test(TERMS, "the digit of a reel, 0 to 3", () -> {
            next("", "0123");
            for (int reel = 0; reel < 4; reel++) {
                Boundary.due("reel", loaded(reel + "A4", 1).reelOf(0), reel);
                unloadable("" + reel, Boundary.ARGUMENT);
            }
        });
        Boundary.test(TERMS, "a letter for the state, \"A\" to \"E\" (0 to 4)", () -> {
            for (int reel = 0; reel < 4; reel++) {
                next("" + reel, "ABCDE");
            }
            for (int state = 0; state < 5; state++) {
                Boundary.due("state", loaded("0" + (char) ('A' + state) + "4", 1).speakerOf(0), state);
                unloadable("0" + (char) ('A' + state), Boundary.ARGUMENT);
            }
        });
    }

    private static void numbers() {
        Boundary.test(TERMS, "the frames of the lips, 4 to 60", () -> {
            for (int lips = 0; lips <= 99; lips++) {
                boolean allowed = lips >= 4 && lips <= 60;
                if (allowed) {
                    Boundary.due("lips", loaded("0A" + lips, 1).lipsOf(0), lips);
                } else {
                    unloadable("0A" + lips, Boundary.ARGUMENT);
                }
            }
            for (char first : "123".toCharArray()) {
                next("0A" + first, DIGITS);
            }
            for (char first : "45".toCharArray()) {
                next("0A" + first, DIGITS + "~;");
            }
            next("0A6", "0~;");
            for (String lips : new String[] {"7", "8", "9", "10", "39", "40", "59", "60"}) {
                next("0A" + lips, "~;");
            }
        });
        Boundary.test(TERMS, "and then perhaps \"~\" and the frames of a sigh, 1 to 20 (none if it is left out)", () -> {
            Boundary.due("left out", loaded("0A60", 1).sighOf(0), 0);
            for (int sigh = 0; sigh <= 99; sigh++) {
                boolean allowed = sigh >= 1 && sigh <= 20;
                if (allowed) {
                    Boundary.due("sigh", loaded("0A60~" + sigh, 1).sighOf(0), sigh);
                } else {
                    unloadable("0A60~" + sigh, Boundary.ARGUMENT);
                }
            }
            unloadable("0A60~", Boundary.ARGUMENT);
            next("0A60~1", DIGITS + ";");
            next("0A60~2", "0;");
            for (String sigh : new String[] {"3", "9", "10", "19", "20"}) {
                next("0A60~" + sigh, ";");
            }
        });
        Boundary.test(TERMS, "numbers without leading zeros.", () -> {
            next("0A", DIGITS.substring(1));
            next("0A60~", DIGITS.substring(1));
            next("0A4~4;0A", DIGITS.substring(1));
            unloadable("0A04", Boundary.ARGUMENT);
            unloadable("0A010", Boundary.ARGUMENT);
            unloadable("0A60~01", Boundary.ARGUMENT);
            unloadable("0A60~0", Boundary.ARGUMENT);
            unloadable("00A4", Boundary.ARGUMENT);
        });
    }

    private static void errors() {
        Boundary.test(TERMS, "The buffer is read from left to right; a character is a syntax error if no clauses as a text, "
            + "of any length, begin with the characters before it and this character.", () -> {
                error("of many clauses", "0A9;".repeat(15), 60);
                error("of a number that goes on behind the buffer", WHOLE_60.substring(0, 58) + "~1", 60);
                error("the first of two", "4A4;0F4", 0);
                error("the first of two", "0A4;0F4;4", 5);
                error("a sigh beyond its lips", "0A4~20", 6);
                error("the end is too early", "0A1", 3);
            });
    }

    private static void error(String what, String text, int index) {
        Boundary.answers(what + ", " + text, () -> Made.written(text), index, x -> x.firstError());
    }

    private static void firstError() {
        Boundary.test(17, "Returns the index of the first character that is a syntax error; the length of the buffer if "
            + "there is none.", () -> {
                error("empty", "", 0);
                error("full", WHOLE_60, 60);
                for (int index = 0; index < 60; index++) {
                    String text = WHOLE_60.substring(0, index) + "x" + WHOLE_60.substring(index + 1);
                    error("an error at " + index, text, index);
                    error("none before " + index, WHOLE_60.substring(0, index), index);
                }
                SighTreaties x = Made.written("x");
                x.clearBuffer();
                Boundary.due("cleared", x.firstError(), 0);
                x.append('0');
                Boundary.due("one, and no error", x.firstError(), 1);
            });
        Boundary.test(17, "Finds the first syntax error of the buffer.", () -> {
            for (String text : new String[] {"", "0A4", "0A4;x", WHOLE_60}) {
                Boundary.unchanging("firstError", () -> Made.written(text), x -> x.firstError());
            }
            SighTreaties x = Made.written("0A4~4;1B");
            Boundary.due("once", x.firstError(), 8);
            Boundary.due("once more", x.firstError(), 8);
        });
    }

    // ---- promise 18

    private static SighTreaties loaded(String text, int clauses) {
        return Boundary.answers("load " + text, () -> Made.written(text), clauses, x -> x.load());
    }

    private static void unloadable(String text, String exception) {
        Boundary.refused("load " + text, () -> beside(text), exception, x -> x.load());
    }

    /** A treaty with a clause, a recording, two snapshots and saved states, and this text in its buffer. */
    private static SighTreaties beside(String text) {
        SighTreaties x = Made.one();
        x.keep(0);
        Made.take(x, 0, 0, 9);
        Made.write(x, text);
        return x;
    }

    private static void load() {
        Boundary.test(18, "Adds the clauses of the buffer as addClause() and changeSigh() do, one after the other, all or "
            + "nothing, and clears the buffer.", () -> {
                SighTreaties x = Made.signed();
                Made.write(x, "3E60~20;1B4");
                Boundary.due("load", x.load(), 10);
                Boundary.due("the first one", List.of(x.reelOf(8), x.speakerOf(8), x.lipsOf(8), x.sighOf(8)).toString(),
                    "[3, 4, 60, 20]");
                Boundary.due("the last one", List.of(x.reelOf(9), x.speakerOf(9), x.lipsOf(9), x.sighOf(9)).toString(),
                    "[1, 1, 4, 0]");
                for (int tongue = 0; tongue < 3; tongue++) {
                    for (int reel = 0; reel < 4; reel++) {
                        boolean stays = reel == 0 || reel == 2;
                        Boundary.due("mixed", x.isMixed(reel, tongue), stays);
                        Boundary.due("signed", x.hasSigned(0, reel, tongue), stays);
                    }
                    Boundary.due("translated", x.isTranslated(8, tongue), false);
                }
                Boundary.due("the buffer", x.clearBuffer(), 0);
                Boundary.unchanging("nothing of a refused text", () -> beside("0A4;1B5;2C6;3D4~5"), y -> y.load());
            });
        Boundary.test(18, "Undoable, as one call.", () -> {
            SighTreaties x = beside(FIFTEEN);
            Boundary.forget(x);
            List<Object> before = new ArrayList<>(List.of(x.clauses(), x.recordings(), x.strengthLeft(0, 0)));
            x.load();
            Boundary.due("one state is saved", x.savedStates(), 2);
            x.undo();
            Boundary.due("all are gone", List.of(x.clauses(), x.recordings(), x.strengthLeft(0, 0)).toString(),
                before.toString());
            Boundary.due("the buffer stays cleared", x.clearBuffer(), 0);
            SighTreaties y = beside("0A4;1B5;2C6");
            Boundary.fillSaved(y);
            y.load();
            Boundary.due("saved states of 6", y.savedStates(), 6);
            y.undo();
            Boundary.due("undone of 6", y.savedStates(), 5);
            Boundary.due("clauses", y.clauses(), 1);
        });
        Boundary.test(18, "Returns how many clauses there are then.", () -> {
            loaded("0A4", 1);
            loaded(WHOLE_60, 12);
            loaded(FIFTEEN, 15);
            SighTreaties x = Made.some(9);
            Made.write(x, FIFTEEN);
            Boundary.due("all 24", x.load(), 24);
        });
    }

    private static void loadOfEdges() {
        Boundary.test(18, "as addClause() and changeSigh() do", () -> {
            SighTreaties x = Made.written(FIFTEEN);
            SighTreaties y = Made.empty();
            x.load();
            for (String part : FIFTEEN.split(";")) {
                y.addClause(part.charAt(0) - '0', part.charAt(1) - 'A', part.charAt(2) - '0');
            }
            Boundary.fillSaved(x);
            Boundary.fillSaved(y);
            Boundary.due("the same as by addClause", x.digest(), y.digest());
            SighTreaties z = Made.written("0A60~20;1B4~4");
            SighTreaties w = Made.empty();
            z.load();
            w.addClause(0, 0, 60);
            w.changeSigh(0, 20);
            w.addClause(1, 1, 4);
            w.changeSigh(1, 4);
            Boundary.fillSaved(z);
            Boundary.fillSaved(w);
            Boundary.due("the same as by changeSigh", z.digest(), w.digest());
        });
    }

    private static SighTreaties beginning(int clauses, String text) {
        SighTreaties x = Made.some(clauses);
        Made.write(x, text);
        return x;
    }

    private static void loadRefused() {
        Boundary.test(18, "Throws `IllegalArgumentException` if the buffer does not tell clauses as a text", () -> {
            for (int length = 0; length < WHOLE_60.length(); length++) {
                String text = WHOLE_60.substring(0, length);
                boolean whole = text.matches(".*[0-3][A-E]([4-9]|[1-6][0-9])(~4)?");
                if (!whole) {
                    unloadable(text, Boundary.ARGUMENT);
                } else {
                    loaded(text, text.split(";").length);
                }
            }
            unloadable(WHOLE_60.substring(0, 59) + ";", Boundary.ARGUMENT);
            unloadable(WHOLE_60.substring(0, 59) + "x", Boundary.ARGUMENT);
            SighTreaties x = loaded("0A4", 1);
            Boundary.due("once more", Boundary.answer(x, y -> y.load()), Boundary.ARGUMENT);
        });
        Boundary.test(18, "Throws `IllegalStateException` if there would be more than 24 clauses, or a sigh would be longer "
            + "than its lips", () -> {
                Boundary.answers("24", () -> beginning(9, FIFTEEN), 24, x -> x.load());
                Boundary.refused("25 of 10", () -> beginning(10, FIFTEEN), Boundary.STATE, x -> x.load());
                Boundary.answers("24 of 23", () -> beginning(23, "0A4"), 24, x -> x.load());
                Boundary.refused("25 of 23", () -> beginning(23, "0A4;0A4"), Boundary.STATE, x -> x.load());
                Boundary.refused("25 of 24", () -> beginning(24, "0A4"), Boundary.STATE, x -> x.load());
                for (int lips = 4; lips < 20; lips++) {
                    loaded("0A" + lips + "~" + lips, 1);
                    unloadable("0A" + lips + "~" + (lips + 1), Boundary.STATE);
                }
                loaded("0A20~20", 1);
                unloadable("0A4~5;0A60;0A60", Boundary.STATE);
                unloadable("0A60;0A4~5;0A60", Boundary.STATE);
                unloadable("0A60;0A60;0A4~5", Boundary.STATE);
            });
    }
}
