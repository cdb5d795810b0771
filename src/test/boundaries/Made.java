/** Objects that the tests of the boundaries begin with. Each is made with far less than 512 calls. */
final class Made {
    private Made() {
    }

    static SighTreaties empty() {
        return new SighTreaties();
    }

    static void write(SighTreaties x, String text) {
        x.clearBuffer();
        for (int i = 0; i < text.length(); i++) {
            x.append(text.charAt(i));
        }
    }

    /** Only this text in the buffer. */
    static SighTreaties written(String text) {
        SighTreaties x = new SighTreaties();
        write(x, text);
        return x;
    }

    /** The clauses of the text; a snapshot of nothing in slot 1, and then the beginning of another text in the buffer. */
    static SighTreaties with(String text) {
        SighTreaties x = new SighTreaties();
        x.keep(1);
        write(x, text);
        x.load();
        write(x, "3E6");
        return x;
    }

    static void take(SighTreaties x, int clause, int tongue, int frames) {
        x.translate(clause, tongue, frames);
        x.record(clause, tongue);
    }

    /** One clause of state A on reel 0, without a sigh and with lips that move for 60 frames. */
    static SighTreaties one() {
        return with("0A60");
    }

    static SighTreaties twoAndOneUndone() {
        SighTreaties x = with("0A20;1B30~5");
        x.addClause(2, 2, 40);
        x.undo();
        return x;
    }

    /** 24 clauses, untranslated. */
    static SighTreaties full() {
        SighTreaties x = some(24);
        x.append('0');
        return x;
    }

    static SighTreaties some(int clauses) {
        SighTreaties x = new SighTreaties();
        for (int i = 0; i < clauses; i++) {
            x.addClause(i % 4, i % 5, 10 + i);
        }
        return x;
    }

    /** Three clauses that are translated in all tongues with 20 frames, 5 of them annexed, and fit; none is recorded. */
    static SighTreaties translated() {
        SighTreaties x = with("0A20~4;1B30;2E40");
        for (int tongue = 0; tongue < 3; tongue++) {
            for (int clause = 0; clause < 3; clause++) {
                x.translate(clause, tongue, 20);
                x.annex(clause, tongue, 5);
            }
        }
        return x;
    }

    /** The same, recorded in all tongues: in tongue 0 in session 0, in the others in session 1. */
    static SighTreaties recorded() {
        SighTreaties x = translated();
        for (int tongue = 0; tongue < 3; tongue++) {
            for (int clause = 0; clause < 3; clause++) {
                x.record(clause, tongue);
            }
            if (tongue == 0) {
                x.nextSession();
            }
        }
        return x;
    }

    /** Reel 0 with clauses 0 (A) and 1 (C), mixed in all tongues and signed by A; 2 and 3 on reels 2 and 3 are new. */
    static SighTreaties mixed() {
        SighTreaties x = with("0A20;0C30~5;2A40;3B10");
        for (int tongue = 0; tongue < 3; tongue++) {
            take(x, 0, tongue, 20);
            take(x, 1, tongue, 20);
            x.mix(0, tongue);
            x.sign(0, 0, tongue);
        }
        return x;
    }

    /** All five states on reel 0 (clauses 0 to 4), A alone on the other reels; recorded in all tongues. */
    static SighTreaties complete() {
        SighTreaties x = with("0A4;0B4;0C4;0D4;0E4;1A4;2A4;3A4~1");
        for (int tongue = 0; tongue < 3; tongue++) {
            for (int clause = 0; clause < 8; clause++) {
                take(x, clause, tongue, 3);
            }
        }
        return x;
    }

    /** The same, and all reels are mixed in all tongues. */
    static SighTreaties council() {
        SighTreaties x = complete();
        for (int tongue = 0; tongue < 3; tongue++) {
            for (int reel = 0; reel < 4; reel++) {
                x.mix(reel, tongue);
            }
        }
        return x;
    }

    /** The same, and all have signed all. */
    static SighTreaties signed() {
        SighTreaties x = council();
        for (int tongue = 0; tongue < 3; tongue++) {
            for (int state = 0; state < 5; state++) {
                x.sign(state, 0, tongue);
            }
            for (int reel = 1; reel < 4; reel++) {
                x.sign(0, reel, tongue);
            }
        }
        return x;
    }
}
