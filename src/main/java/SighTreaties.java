/**
 * Dubbing of a treaty: clauses on reels, spoken by states, translated into tongues that fit the lips or not,
 * recorded by voices, mixed, signed and ratified. The promises are told in ../shared/DOC.md.
 *
 * <p>All rows are made in constructors and used again, so that no call of the face makes a new row.
 */
public final class SighTreaties {
    private static final int REELS = 4;
    private static final int STATES = 5;
    private static final int TONGUES = 3;
    private static final int SLOTS = 2;

    private static final int MAX_CLAUSES = 24;
    private static final int MAX_SAVED = 6;
    private static final int MAX_SIGNS = 60;

    private static final int MIN_LIPS = 4;
    private static final int MAX_LIPS = 60;
    private static final int MAX_SIGH = 20;
    private static final int MAX_FRAMES = 60;
    private static final int MAX_ANNEXED_AT_ONCE = 59;
    private static final int MAX_ANNEX = 99;
    private static final int FIRST_STAMINA = 60;
    private static final int STAMINA_STEP = 10;
    private static final int MIN_STAMINA = 20;
    private static final int MAX_STAMINA = 120;
    private static final int MAX_SESSION = 999;

    private static final int MIN_SIGN = 33;
    private static final int MAX_SIGN = 126;

    /** Told inside the class where the face throws an exception. */
    private static final int NONE = -1;

    private static final int NO_REASON = 0;
    private static final int NOT_TRANSLATED = 1;
    private static final int RECORDED_ALREADY = 2;
    private static final int DOES_NOT_FIT = 3;
    private static final int TOO_WEAK = 4;

    private static final long FIRST_HASH = 4229L;
    private static final long HASH_FACTOR = 31L;

    private static final int FRACTION_BITS = 52;
    private static final long FRACTION_SIZE = 4503599627370496L;
    /** Also what is added to an exponent in the bits of a double. */
    private static final long MAX_EXPONENT = 1023L;

    private final Treaty now;
    private final History history;
    private final Treaty[] slots;
    private final boolean[] isKept;
    private final ClauseText text;
    private final Plan plan;

    public SighTreaties() {
        now = new Treaty();
        history = new History();
        slots = new Treaty[SLOTS];
        for (int slot = 0; slot < slots.length; slot++) {
            slots[slot] = new Treaty();
        }
        isKept = new boolean[SLOTS];
        text = new ClauseText();
        plan = new Plan();
    }

    // ---- clauses

    public int addClause(int reel, int state, int lips)
            throws IndexOutOfBoundsException, IllegalArgumentException, IllegalStateException {
        checkReel(reel);
        checkState(state);
        checkRange(lips, MIN_LIPS, MAX_LIPS);
        if (now.count >= MAX_CLAUSES) {
            throw new IllegalStateException("there are 24 clauses");
        }
        history.push(now);
        return now.add(reel, state, lips, 0);
    }

    public int changeLips(int clause, int lips)
            throws IndexOutOfBoundsException, IllegalArgumentException, IllegalStateException {
        checkClause(clause);
        checkRange(lips, MIN_LIPS, MAX_LIPS);
        if (now.isRecordedAnywhere(clause) || now.sighAt(clause) > lips) {
            throw new IllegalStateException("the clause is recorded, or its sigh is longer");
        }
        history.push(now);
        int before = now.lipsAt(clause);
        put(now.lips, clause, lips);
        return before;
    }

    public int changeSigh(int clause, int frames)
            throws IndexOutOfBoundsException, IllegalArgumentException, IllegalStateException {
        checkClause(clause);
        checkRange(frames, 0, MAX_SIGH);
        if (now.isRecordedAnywhere(clause) || frames > now.lipsAt(clause)) {
            throw new IllegalStateException("the clause is recorded, or its lips are shorter");
        }
        history.push(now);
        int before = now.sighAt(clause);
        put(now.sighs, clause, frames);
        return before;
    }

    public int moveClause(int clause, int reel) throws IndexOutOfBoundsException, IllegalStateException {
        checkClause(clause);
        checkReel(reel);
        if (now.isRecordedAnywhere(clause) || now.reelAt(clause) == reel) {
            throw new IllegalStateException("the clause is recorded, or in this reel already");
        }
        history.push(now);
        int before = now.reelAt(clause);
        put(now.reels, clause, reel);
        now.unmixEverywhere(reel);
        return before;
    }

    // ---- translations

    public int translate(int clause, int tongue, int frames)
            throws IndexOutOfBoundsException, IllegalArgumentException, IllegalStateException {
        checkTranslation(clause, tongue);
        checkRange(frames, 1, MAX_FRAMES);
        if (now.isTaken(clause, tongue)) {
            throw new IllegalStateException("the clause is recorded in this tongue");
        }
        history.push(now);
        now.putTranslation(clause, tongue, frames, 0);
        return now.roomAt(clause, tongue);
    }

    public int annex(int clause, int tongue, int frames)
            throws IndexOutOfBoundsException, IllegalArgumentException, IllegalStateException {
        checkTranslation(clause, tongue);
        checkRange(frames, 1, MAX_ANNEXED_AT_ONCE);
        if (!now.canAnnex(clause, tongue, frames)) {
            throw new IllegalStateException("these frames can't be annexed");
        }
        history.push(now);
        int left = now.framesAt(clause, tongue) - frames;
        now.putTranslation(clause, tongue, left, now.annexedAt(clause, tongue) + frames);
        return now.annexTotal(tongue);
    }

    public int bringBack(int clause, int tongue) throws IndexOutOfBoundsException, IllegalStateException {
        checkTranslation(clause, tongue);
        int annexed = now.annexedAt(clause, tongue);
        if (annexed == 0 || now.isTaken(clause, tongue)) {
            throw new IllegalStateException("nothing is annexed, or the clause is recorded in this tongue");
        }
        history.push(now);
        now.putTranslation(clause, tongue, now.framesAt(clause, tongue) + annexed, 0);
        return annexed;
    }

    // ---- voices, recording

    public int cast(int state, int tongue, int stamina)
            throws IndexOutOfBoundsException, IllegalArgumentException, IllegalStateException {
        checkVoice(state, tongue);
        checkRange(stamina, MIN_STAMINA, MAX_STAMINA);
        if (now.usedBy(state, tongue) > stamina) {
            throw new IllegalStateException("the voice was used for more frames in this session");
        }
        history.push(now);
        int before = now.staminaAt(state, tongue);
        now.putStamina(state, tongue, stamina);
        return before;
    }

    public int record(int clause, int tongue) throws IndexOutOfBoundsException, IllegalStateException {
        checkTranslation(clause, tongue);
        if (now.reasonAt(clause, tongue) != NO_REASON) {
            throw new IllegalStateException("there is a reason against recording the clause");
        }
        history.push(now);
        now.take(clause, tongue);
        return now.strengthAt(now.speakerAt(clause), tongue);
    }

    public int wipe(int clause, int tongue) throws IndexOutOfBoundsException, IllegalStateException {
        checkTranslation(clause, tongue);
        checkTaken(clause, tongue);
        history.push(now);
        int session = now.takenIn(clause, tongue);
        now.dropTaken(clause, tongue);
        return session;
    }

    public int nextSession() throws IllegalStateException {
        if (now.session >= MAX_SESSION) {
            throw new IllegalStateException("the session would be above 999");
        }
        history.push(now);
        now.beginSession();
        return now.session;
    }

    // ---- reels

    public int mix(int reel, int tongue) throws IndexOutOfBoundsException, IllegalStateException {
        checkReel(reel);
        checkTongue(tongue);
        if (now.hasMix(reel, tongue) || !now.isWholeReel(reel, tongue)) {
            throw new IllegalStateException("the reel is mixed already, or is not complete");
        }
        history.push(now);
        now.putMix(reel, tongue);
        return now.silenceIn(reel, tongue);
    }

    public int sign(int state, int reel, int tongue) throws IndexOutOfBoundsException, IllegalStateException {
        checkState(state);
        checkReel(reel);
        checkTongue(tongue);
        if (!now.hasMix(reel, tongue) || !now.isHeardIn(state, reel) || now.hasSignature(state, reel, tongue)) {
            throw new IllegalStateException("the state can't sign the reel");
        }
        history.push(now);
        now.putSignature(state, reel, tongue);
        return now.signaturesMissing(reel, tongue);
    }

    // ---- texts

    public int append(int code) throws IllegalArgumentException, IllegalStateException {
        checkRange(code, MIN_SIGN, MAX_SIGN);
        if (text.length >= MAX_SIGNS) {
            throw new IllegalStateException("the buffer has 60 characters");
        }
        text.putSign(code);
        return text.length;
    }

    public int clearBuffer() {
        int before = text.length;
        text.length = 0;
        return before;
    }

    public int firstError() {
        return text.readToError();
    }

    public int load() throws IllegalArgumentException, IllegalStateException {
        if (!text.readWhole()) {
            throw new IllegalArgumentException("the buffer does not tell clauses as a text");
        }
        int parts = text.part + 1;
        if (now.count + parts > MAX_CLAUSES || text.hasSighBeyondLips(parts)) {
            throw new IllegalStateException("there would be too many clauses, or too long a sigh");
        }
        history.push(now);
        for (int part = 0; part < parts; part++) {
            now.add(at(text.reels, part), at(text.speakers, part), at(text.lips, part), at(text.sighs, part));
        }
        text.length = 0;
        return now.count;
    }

    // ---- snapshots, undo

    public void keep(int slot) throws IllegalArgumentException {
        checkRange(slot, 0, SLOTS - 1);
        Treaty row = treatyAt(slots, slot);
        if (row != null && slot >= 0 && slot < isKept.length) {
            row.becomeLike(now);
            isKept[slot] = true;
        }
    }

    public void goBack(int slot) throws IllegalArgumentException, IllegalStateException {
        checkRange(slot, 0, SLOTS - 1);
        if (!hasSnapshot(slot)) {
            throw new IllegalStateException("there is no snapshot in the slot");
        }
        history.push(now);
        now.becomeLike(treatyAt(slots, slot));
    }

    public void undo() throws IllegalStateException {
        if (history.count <= 0) {
            throw new IllegalStateException("there is no saved state");
        }
        history.popInto(now);
    }

    public int savedStates() {
        return history.count;
    }

    // ---- clauses as they are; nothing is changed

    public int clauses() {
        return now.count;
    }

    public int reelOf(int clause) throws IndexOutOfBoundsException {
        checkClause(clause);
        return now.reelAt(clause);
    }

    public int speakerOf(int clause) throws IndexOutOfBoundsException {
        checkClause(clause);
        return now.speakerAt(clause);
    }

    public int lipsOf(int clause) throws IndexOutOfBoundsException {
        checkClause(clause);
        return now.lipsAt(clause);
    }

    public int sighOf(int clause) throws IndexOutOfBoundsException {
        checkClause(clause);
        return now.sighAt(clause);
    }

    public boolean isTranslated(int clause, int tongue) throws IndexOutOfBoundsException {
        checkTranslation(clause, tongue);
        return now.hasTranslation(clause, tongue);
    }

    public int framesOf(int clause, int tongue) throws IndexOutOfBoundsException, IllegalStateException {
        checkTranslation(clause, tongue);
        checkTranslated(clause, tongue);
        return now.framesAt(clause, tongue);
    }

    public int annexedOf(int clause, int tongue) throws IndexOutOfBoundsException {
        checkTranslation(clause, tongue);
        return now.annexedAt(clause, tongue);
    }

    public boolean isRecorded(int clause, int tongue) throws IndexOutOfBoundsException {
        checkTranslation(clause, tongue);
        return now.isTaken(clause, tongue);
    }

    public int sessionOf(int clause, int tongue) throws IndexOutOfBoundsException, IllegalStateException {
        checkTranslation(clause, tongue);
        checkTaken(clause, tongue);
        return now.takenIn(clause, tongue);
    }

    public int roomFor(int clause, int tongue) throws IndexOutOfBoundsException, IllegalStateException {
        checkTranslation(clause, tongue);
        checkTranslated(clause, tongue);
        return now.roomAt(clause, tongue);
    }

    public boolean fits(int clause, int tongue) throws IndexOutOfBoundsException {
        checkTranslation(clause, tongue);
        return now.hasFit(clause, tongue);
    }

    public int hundredthsOf(int clause, int tongue) throws IndexOutOfBoundsException, IllegalStateException {
        checkTranslation(clause, tongue);
        checkTranslated(clause, tongue);
        return now.hundredthsAt(clause, tongue);
    }

    public int reasonAgainst(int clause, int tongue) throws IndexOutOfBoundsException {
        checkTranslation(clause, tongue);
        return now.reasonAt(clause, tongue);
    }

    // ---- voices; nothing is changed

    public int staminaOf(int state, int tongue) throws IndexOutOfBoundsException {
        checkVoice(state, tongue);
        return now.staminaAt(state, tongue);
    }

    public int strengthLeft(int state, int tongue) throws IndexOutOfBoundsException {
        checkVoice(state, tongue);
        return now.strengthAt(state, tongue);
    }

    public int framesOfVoice(int state, int tongue) throws IndexOutOfBoundsException {
        checkVoice(state, tongue);
        return now.takenFramesOf(state, tongue);
    }

    public int sessionsByGoing(int state, int tongue) throws IndexOutOfBoundsException, IllegalStateException {
        checkVoice(state, tongue);
        checkPlan(state, tongue);
        return plan.goThrough();
    }

    public int sessionsByTable(int state, int tongue) throws IndexOutOfBoundsException, IllegalStateException {
        checkVoice(state, tongue);
        checkPlan(state, tongue);
        return plan.fillTable();
    }

    // ---- reels; nothing is changed

    public int clausesIn(int reel) throws IndexOutOfBoundsException {
        checkReel(reel);
        return now.clausesOn(reel);
    }

    public int lengthOf(int reel) throws IndexOutOfBoundsException {
        checkReel(reel);
        return now.lipsOn(reel);
    }

    public boolean speaksIn(int state, int reel) throws IndexOutOfBoundsException {
        checkState(state);
        checkReel(reel);
        return now.isHeardIn(state, reel);
    }

    public boolean isComplete(int reel, int tongue) throws IndexOutOfBoundsException {
        checkReel(reel);
        checkTongue(tongue);
        return now.isWholeReel(reel, tongue);
    }

    public boolean isMixed(int reel, int tongue) throws IndexOutOfBoundsException {
        checkReel(reel);
        checkTongue(tongue);
        return now.hasMix(reel, tongue);
    }

    public boolean hasSigned(int state, int reel, int tongue) throws IndexOutOfBoundsException {
        checkState(state);
        checkReel(reel);
        checkTongue(tongue);
        return now.hasSignature(state, reel, tongue);
    }

    public int signaturesOn(int reel, int tongue) throws IndexOutOfBoundsException {
        checkReel(reel);
        checkTongue(tongue);
        return now.signaturesAt(reel, tongue);
    }

    public int missingOn(int reel, int tongue) throws IndexOutOfBoundsException {
        checkReel(reel);
        checkTongue(tongue);
        return now.signaturesMissing(reel, tongue);
    }

    // ---- tongues, accounts; nothing is changed

    public int annexOf(int tongue) throws IndexOutOfBoundsException {
        checkTongue(tongue);
        return now.annexTotal(tongue);
    }

    public int recordedIn(int tongue) throws IndexOutOfBoundsException {
        checkTongue(tongue);
        return now.takenTotal(tongue);
    }

    public int readyByClauses(int tongue) throws IndexOutOfBoundsException {
        checkTongue(tongue);
        return now.readyTotal(tongue);
    }

    public int readyByVoices(int tongue) throws IndexOutOfBoundsException {
        checkTongue(tongue);
        return now.readyOfAllVoices(tongue);
    }

    public boolean isRatified(int tongue) throws IndexOutOfBoundsException {
        checkTongue(tongue);
        return now.hasRatification(tongue);
    }

    public int misfitsIn(int tongue) throws IndexOutOfBoundsException {
        checkTongue(tongue);
        return now.misfitTotal(tongue);
    }

    public int session() {
        return now.session;
    }

    public int recordings() {
        return now.takes;
    }

    public int wiped() {
        return now.wipes;
    }

    public int mixes() {
        return now.mixings;
    }

    // ---- what would be; nothing is changed

    public int leastAnnex(int clause, int tongue) throws IndexOutOfBoundsException, IllegalStateException {
        checkTranslation(clause, tongue);
        checkTranslated(clause, tongue);
        int frames = now.leastAnnexAt(clause, tongue);
        if (frames == NONE) {
            throw new IllegalStateException("less than 1 frame would be left");
        }
        return frames;
    }

    public int longestSigh(int clause) throws IndexOutOfBoundsException, IllegalStateException {
        checkClause(clause);
        int frames = now.longestSighAt(clause);
        if (frames == NONE) {
            throw new IllegalStateException("some translation does not fit without a sigh, either");
        }
        return frames;
    }

    public int nextClause(int tongue) throws IndexOutOfBoundsException, IllegalStateException {
        checkTongue(tongue);
        int clause = now.longestToTake(tongue);
        if (clause == NONE) {
            throw new IllegalStateException("there is no clause that can be recorded now");
        }
        return clause;
    }

    public int bestTongue() {
        return now.mostTakenTongue();
    }

    public int loudestState() {
        return now.mostLipsState();
    }

    public double meanFit(int tongue) throws IndexOutOfBoundsException {
        checkTongue(tongue);
        return now.meanHundredths(tongue);
    }

    public long digest() {
        long hash = chain(FIRST_HASH, now.count);
        for (int clause = 0; clause < now.count; clause++) {
            hash = chainClause(hash, clause);
        }
        for (int state = 0; state < STATES; state++) {
            for (int tongue = 0; tongue < TONGUES; tongue++) {
                hash = chainVoice(hash, state, tongue);
            }
        }
        for (int reel = 0; reel < REELS; reel++) {
            hash = chainReel(hash, reel);
        }
        for (int tongue = 0; tongue < TONGUES; tongue++) {
            hash = chainTongue(hash, tongue);
        }
        return chainBuffer(chainAccounts(hash));
    }

    // ---- parts of the digest

    private static long chain(long hash, long value) {
        return HASH_FACTOR * hash + value;
    }

    private static long chainFlag(long hash, boolean flag) {
        return chain(hash, flag ? 1L : 0L);
    }

    private long chainClause(long first, int clause) {
        long hash = chain(first, now.reelAt(clause));
        hash = chain(hash, now.speakerAt(clause));
        hash = chain(hash, now.lipsAt(clause));
        hash = chain(hash, now.sighAt(clause));
        hash = chain(hash, now.longestSighAt(clause) + 1);
        for (int tongue = 0; tongue < TONGUES; tongue++) {
            hash = chainTranslation(hash, clause, tongue);
        }
        return hash;
    }

    private long chainTranslation(long first, int clause, int tongue) {
        long hash = chain(first, now.framesAt(clause, tongue));
        hash = chain(hash, now.annexedAt(clause, tongue));
        hash = chainFlag(hash, now.isTaken(clause, tongue));
        hash = chain(hash, now.reasonAt(clause, tongue));
        if (now.hasTranslation(clause, tongue)) {
            hash = chain(hash, now.roomAt(clause, tongue));
            hash = chain(hash, now.hundredthsAt(clause, tongue));
            hash = chain(hash, now.leastAnnexAt(clause, tongue) + 1);
        }
        return hash;
    }

    private long chainVoice(long first, int state, int tongue) {
        long hash = chain(first, now.staminaAt(state, tongue));
        hash = chain(hash, now.strengthAt(state, tongue));
        hash = chain(hash, now.takenFramesOf(state, tongue));
        now.fillPlan(plan, state, tongue);
        if (plan.hasTooLong()) {
            return chain(chain(hash, 0L), 0L);
        }
        return chain(chain(hash, plan.goThrough() + 1), plan.fillTable() + 1);
    }

    private long chainReel(long first, int reel) {
        long hash = chain(first, now.clausesOn(reel));
        hash = chain(hash, now.lipsOn(reel));
        for (int tongue = 0; tongue < TONGUES; tongue++) {
            hash = chainFlag(hash, now.isWholeReel(reel, tongue));
            hash = chainFlag(hash, now.hasMix(reel, tongue));
            hash = chain(hash, now.signaturesAt(reel, tongue));
            hash = chain(hash, now.signaturesMissing(reel, tongue));
        }
        return hash;
    }

    private long chainTongue(long first, int tongue) {
        long hash = chain(first, now.annexTotal(tongue));
        hash = chain(hash, now.takenTotal(tongue));
        hash = chain(hash, now.readyTotal(tongue));
        hash = chain(hash, now.readyOfAllVoices(tongue));
        hash = chainFlag(hash, now.hasRatification(tongue));
        hash = chain(hash, now.misfitTotal(tongue));
        hash = chain(hash, now.longestToTake(tongue) + 1);
        return chain(hash, bitsOf(now.meanHundredths(tongue)));
    }

    private long chainAccounts(long first) {
        long hash = chain(first, now.session);
        hash = chain(hash, now.takes);
        hash = chain(hash, now.wipes);
        hash = chain(hash, now.mixings);
        hash = chain(hash, now.mostTakenTongue());
        hash = chain(hash, now.mostLipsState());
        hash = chain(hash, history.count);
        for (int slot = 0; slot < SLOTS; slot++) {
            hash = chainFlag(hash, hasSnapshot(slot));
        }
        return hash;
    }

    private long chainBuffer(long first) {
        long hash = chain(first, text.length);
        for (int index = 0; index < text.length; index++) {
            hash = chain(hash, at(text.signs, index));
        }
        return hash;
    }

    /**
     * The bits of a mean, as Double.doubleToLongBits tells them: that function is no part of the library that
     * LANGUAGE.md leaves. A mean is 0, or at least 1, since 1 frame of 60 is 1 hundredth; halving loses no bit.
     */
    private static long bitsOf(double mean) {
        if (!(mean >= 1.0)) {
            return 0L;
        }
        double part = mean;
        long exponent = 0L;
        while (part >= 2.0 && exponent < MAX_EXPONENT) {
            part = part / 2.0;
            exponent++;
        }
        long fraction = (long) ((part - 1.0) * (double) FRACTION_SIZE);
        return ((exponent + MAX_EXPONENT) << FRACTION_BITS) | fraction;
    }

    // ---- checks that throw

    private void checkClause(int clause) {
        if (clause < 0 || clause >= now.count) {
            throw new IndexOutOfBoundsException("there is no such clause");
        }
    }

    private static void checkReel(int reel) {
        if (reel < 0 || reel >= REELS) {
            throw new IndexOutOfBoundsException("there is no such reel");
        }
    }

    private static void checkState(int state) {
        if (state < 0 || state >= STATES) {
            throw new IndexOutOfBoundsException("there is no such state");
        }
    }

    private static void checkTongue(int tongue) {
        if (tongue < 0 || tongue >= TONGUES) {
            throw new IndexOutOfBoundsException("there is no such tongue");
        }
    }

    private void checkTranslation(int clause, int tongue) {
        checkClause(clause);
        checkTongue(tongue);
    }

    private static void checkVoice(int state, int tongue) {
        checkState(state);
        checkTongue(tongue);
    }

    private static void checkRange(int value, int least, int most) {
        if (value < least || value > most) {
            throw new IllegalArgumentException("a number is out of range");
        }
    }

    private void checkTranslated(int clause, int tongue) {
        if (!now.hasTranslation(clause, tongue)) {
            throw new IllegalStateException("the clause is not translated");
        }
    }

    private void checkTaken(int clause, int tongue) {
        if (!now.isTaken(clause, tongue)) {
            throw new IllegalStateException("the clause is not recorded in this tongue");
        }
    }

    private void checkPlan(int state, int tongue) {
        now.fillPlan(plan, state, tongue);
        if (plan.hasTooLong()) {
            throw new IllegalStateException("something that is ready is longer than the stamina");
        }
    }

    private boolean hasSnapshot(int slot) {
        return slot >= 0 && slot < isKept.length && isKept[slot];
    }

    // ---- rows: every index is tested here, so that no row ever throws by itself

    private static int at(int[] row, int index) {
        return index >= 0 && index < row.length ? row[index] : 0;
    }

    private static void put(int[] row, int index, int value) {
        if (index >= 0 && index < row.length) {
            row[index] = value;
        }
    }

    private static void copyRow(int[] from, int[] to) {
        System.arraycopy(from, 0, to, 0, Math.min(from.length, to.length));
    }

    private static Treaty treatyAt(Treaty[] row, int index) {
        return index >= 0 && index < row.length ? row[index] : null;
    }

    /** All that a snapshot has: clauses, translations, voices, reels and accounts. */
    private static final class Treaty {
        /** How many clauses there are; the rows behind them are never written to. */
        int count;
        final int[] reels = new int[MAX_CLAUSES];
        final int[] speakers = new int[MAX_CLAUSES];
        final int[] lips = new int[MAX_CLAUSES];
        final int[] sighs = new int[MAX_CLAUSES];

        /** The frames of a translation without what is annexed; 0 if there is none. */
        final int[] frames = new int[MAX_CLAUSES * TONGUES];
        final int[] annexed = new int[MAX_CLAUSES * TONGUES];
        /** The session of a recording and 1, together; 0 if there is none. */
        final int[] taken = new int[MAX_CLAUSES * TONGUES];

        final int[] stamina = new int[STATES * TONGUES];
        final int[] used = new int[STATES * TONGUES];

        /** 1 where a reel is mixed. */
        final int[] mixed = new int[REELS * TONGUES];
        /** A bit for each state that has signed. */
        final int[] signed = new int[REELS * TONGUES];

        int session;
        int takes;
        int wipes;
        int mixings;

        Treaty() {
            for (int voice = 0; voice < stamina.length; voice++) {
                stamina[voice] = FIRST_STAMINA + STAMINA_STEP * (voice % TONGUES);
            }
        }

        void becomeLike(Treaty other) {
            if (other == null) {
                return;
            }
            count = other.count;
            copyRow(other.reels, reels);
            copyRow(other.speakers, speakers);
            copyRow(other.lips, lips);
            copyRow(other.sighs, sighs);
            copyRow(other.frames, frames);
            copyRow(other.annexed, annexed);
            copyRow(other.taken, taken);
            copyRow(other.stamina, stamina);
            copyRow(other.used, used);
            copyRow(other.mixed, mixed);
            copyRow(other.signed, signed);
            session = other.session;
            takes = other.takes;
            wipes = other.wipes;
            mixings = other.mixings;
        }

        /** The place of a clause, a state or a reel, in a tongue, in the rows that have one for each tongue. */
        private static int place(int number, int tongue) {
            return number * TONGUES + tongue;
        }

        // ---- changes; what they need has been checked

        int add(int reel, int state, int lipFrames, int sigh) {
            int clause = count;
            put(reels, clause, reel);
            put(speakers, clause, state);
            put(lips, clause, lipFrames);
            put(sighs, clause, sigh);
            count++;
            unmixEverywhere(reel);
            return clause;
        }

        void putTranslation(int clause, int tongue, int newFrames, int newAnnexed) {
            put(frames, place(clause, tongue), newFrames);
            put(annexed, place(clause, tongue), newAnnexed);
        }

        void putStamina(int state, int tongue, int newStamina) {
            put(stamina, place(state, tongue), newStamina);
        }

        void take(int clause, int tongue) {
            int voice = place(speakerAt(clause), tongue);
            put(used, voice, at(used, voice) + spokenAt(clause, tongue));
            put(taken, place(clause, tongue), session + 1);
            takes++;
        }

        void dropTaken(int clause, int tongue) {
            put(taken, place(clause, tongue), 0);
            wipes++;
            unmix(reelAt(clause), tongue);
        }

        void beginSession() {
            session++;
            for (int voice = 0; voice < used.length; voice++) {
                used[voice] = 0;
            }
        }

        void putMix(int reel, int tongue) {
            put(mixed, place(reel, tongue), 1);
            mixings++;
        }

        void unmixEverywhere(int reel) {
            for (int tongue = 0; tongue < TONGUES; tongue++) {
                unmix(reel, tongue);
            }
        }

        private void unmix(int reel, int tongue) {
            put(mixed, place(reel, tongue), 0);
            put(signed, place(reel, tongue), 0);
        }

        void putSignature(int state, int reel, int tongue) {
            int place = place(reel, tongue);
            put(signed, place, at(signed, place) | (1 << state));
        }

        // ---- clauses

        int reelAt(int clause) {
            return at(reels, clause);
        }

        int speakerAt(int clause) {
            return at(speakers, clause);
        }

        int lipsAt(int clause) {
            return at(lips, clause);
        }

        int sighAt(int clause) {
            return at(sighs, clause);
        }

        int framesAt(int clause, int tongue) {
            return at(frames, place(clause, tongue));
        }

        boolean hasTranslation(int clause, int tongue) {
            return framesAt(clause, tongue) > 0;
        }

        int annexedAt(int clause, int tongue) {
            return at(annexed, place(clause, tongue));
        }

        boolean isTaken(int clause, int tongue) {
            return at(taken, place(clause, tongue)) > 0;
        }

        int takenIn(int clause, int tongue) {
            return at(taken, place(clause, tongue)) - 1;
        }

        boolean isRecordedAnywhere(int clause) {
            for (int tongue = 0; tongue < TONGUES; tongue++) {
                if (isTaken(clause, tongue)) {
                    return true;
                }
            }
            return false;
        }

        /** The frames of the translation and the sigh, together. */
        int spokenAt(int clause, int tongue) {
            return at(frames, place(clause, tongue)) + at(sighs, clause);
        }

        int roomAt(int clause, int tongue) {
            return at(lips, clause) - spokenAt(clause, tongue);
        }

        /** Looks into the rows itself, since most that is told of a tongue asks for it from many calls deep. */
        boolean hasFit(int clause, int tongue) {
            int own = at(frames, place(clause, tongue));
            return own > 0 && own + at(sighs, clause) <= at(lips, clause);
        }

        int hundredthsAt(int clause, int tongue) {
            int lipFrames = lipsAt(clause);
            return lipFrames > 0 ? spokenAt(clause, tongue) * 100 / lipFrames : 0;
        }

        boolean isReady(int clause, int tongue) {
            return hasFit(clause, tongue) && !isTaken(clause, tongue);
        }

        int reasonAt(int clause, int tongue) {
            if (!hasTranslation(clause, tongue)) {
                return NOT_TRANSLATED;
            }
            if (isTaken(clause, tongue)) {
                return RECORDED_ALREADY;
            }
            if (!hasFit(clause, tongue)) {
                return DOES_NOT_FIT;
            }
            boolean isTooWeak = strengthAt(speakerAt(clause), tongue) < spokenAt(clause, tongue);
            return isTooWeak ? TOO_WEAK : NO_REASON;
        }

        boolean canAnnex(int clause, int tongue, int more) {
            return hasTranslation(clause, tongue)
                    && !isTaken(clause, tongue)
                    && framesAt(clause, tongue) - more >= 1
                    && annexTotal(tongue) + more <= MAX_ANNEX;
        }

        /** NONE if less than 1 frame would be left. */
        int leastAnnexAt(int clause, int tongue) {
            int least = Math.max(0, -roomAt(clause, tongue));
            return framesAt(clause, tongue) - least >= 1 ? least : NONE;
        }

        /** NONE if some translation does not fit without a sigh, either. */
        int longestSighAt(int clause) {
            int longest = Math.min(MAX_SIGH, lipsAt(clause));
            for (int tongue = 0; tongue < TONGUES; tongue++) {
                longest = Math.min(longest, lipsAt(clause) - framesAt(clause, tongue));
            }
            return longest >= 0 ? longest : NONE;
        }

        // ---- voices

        int staminaAt(int state, int tongue) {
            return at(stamina, place(state, tongue));
        }

        int usedBy(int state, int tongue) {
            return at(used, place(state, tongue));
        }

        int strengthAt(int state, int tongue) {
            return staminaAt(state, tongue) - usedBy(state, tongue);
        }

        int takenFramesOf(int state, int tongue) {
            int sum = 0;
            for (int clause = 0; clause < count; clause++) {
                if (speakerAt(clause) == state && isTaken(clause, tongue)) {
                    sum += spokenAt(clause, tongue);
                }
            }
            return sum;
        }

        private int readyOfVoice(int state, int tongue) {
            int sum = 0;
            for (int clause = 0; clause < count; clause++) {
                if (speakerAt(clause) == state && isReady(clause, tongue)) {
                    sum += spokenAt(clause, tongue);
                }
            }
            return sum;
        }

        void fillPlan(Plan plan, int state, int tongue) {
            if (plan == null) {
                return;
            }
            plan.start(strengthAt(state, tongue), staminaAt(state, tongue));
            for (int clause = 0; clause < count; clause++) {
                if (speakerAt(clause) == state && isReady(clause, tongue)) {
                    plan.add(spokenAt(clause, tongue));
                }
            }
        }

        int mostLipsState() {
            int loudest = 0;
            for (int state = 1; state < STATES; state++) {
                if (lipsBy(state) > lipsBy(loudest)) {
                    loudest = state;
                }
            }
            return loudest;
        }

        private int lipsBy(int state) {
            int sum = 0;
            for (int clause = 0; clause < count; clause++) {
                if (speakerAt(clause) == state) {
                    sum += lipsAt(clause);
                }
            }
            return sum;
        }

        // ---- reels

        int clausesOn(int reel) {
            int sum = 0;
            for (int clause = 0; clause < count; clause++) {
                if (reelAt(clause) == reel) {
                    sum++;
                }
            }
            return sum;
        }

        int lipsOn(int reel) {
            int sum = 0;
            for (int clause = 0; clause < count; clause++) {
                if (reelAt(clause) == reel) {
                    sum += lipsAt(clause);
                }
            }
            return sum;
        }

        int silenceIn(int reel, int tongue) {
            int sum = 0;
            for (int clause = 0; clause < count; clause++) {
                if (reelAt(clause) == reel) {
                    sum += roomAt(clause, tongue);
                }
            }
            return sum;
        }

        boolean isHeardIn(int state, int reel) {
            for (int clause = 0; clause < count; clause++) {
                if (reelAt(clause) == reel && speakerAt(clause) == state) {
                    return true;
                }
            }
            return false;
        }

        boolean isWholeReel(int reel, int tongue) {
            for (int clause = 0; clause < count; clause++) {
                if (reelAt(clause) == reel && !isTaken(clause, tongue)) {
                    return false;
                }
            }
            return clausesOn(reel) > 0;
        }

        boolean hasMix(int reel, int tongue) {
            return at(mixed, place(reel, tongue)) == 1;
        }

        boolean hasSignature(int state, int reel, int tongue) {
            return ((at(signed, place(reel, tongue)) >> state) & 1) == 1;
        }

        int signaturesAt(int reel, int tongue) {
            return Integer.bitCount(at(signed, place(reel, tongue)));
        }

        int signaturesMissing(int reel, int tongue) {
            int sum = 0;
            for (int state = 0; state < STATES; state++) {
                if (isHeardIn(state, reel) && !hasSignature(state, reel, tongue)) {
                    sum++;
                }
            }
            return sum;
        }

        // ---- tongues

        int annexTotal(int tongue) {
            int sum = 0;
            for (int clause = 0; clause < count; clause++) {
                sum += annexedAt(clause, tongue);
            }
            return sum;
        }

        int takenTotal(int tongue) {
            int sum = 0;
            for (int clause = 0; clause < count; clause++) {
                if (isTaken(clause, tongue)) {
                    sum++;
                }
            }
            return sum;
        }

        int readyTotal(int tongue) {
            int sum = 0;
            for (int clause = 0; clause < count; clause++) {
                if (isReady(clause, tongue)) {
                    sum += spokenAt(clause, tongue);
                }
            }
            return sum;
        }

        int readyOfAllVoices(int tongue) {
            int sum = 0;
            for (int state = 0; state < STATES; state++) {
                sum += readyOfVoice(state, tongue);
            }
            return sum;
        }

        boolean hasRatification(int tongue) {
            for (int reel = 0; reel < REELS; reel++) {
                boolean isDone = hasMix(reel, tongue) && signaturesMissing(reel, tongue) == 0;
                if (clausesOn(reel) > 0 && !isDone) {
                    return false;
                }
            }
            return count > 0;
        }

        int misfitTotal(int tongue) {
            int sum = 0;
            for (int clause = 0; clause < count; clause++) {
                if (hasTranslation(clause, tongue) && !hasFit(clause, tongue)) {
                    sum++;
                }
            }
            return sum;
        }

        double meanHundredths(int tongue) {
            int sum = 0;
            int translations = 0;
            for (int clause = 0; clause < count; clause++) {
                if (hasTranslation(clause, tongue)) {
                    sum += hundredthsAt(clause, tongue);
                    translations++;
                }
            }
            return translations > 0 ? (double) sum / (double) translations : 0.0;
        }

        /** NONE if no clause can be recorded now. */
        int longestToTake(int tongue) {
            int longest = NONE;
            for (int clause = 0; clause < count; clause++) {
                if (reasonAt(clause, tongue) == NO_REASON
                        && (longest == NONE || spokenAt(clause, tongue) > spokenAt(longest, tongue))) {
                    longest = clause;
                }
            }
            return longest;
        }

        int mostTakenTongue() {
            int best = 0;
            for (int tongue = 1; tongue < TONGUES; tongue++) {
                if (takenTotal(tongue) > takenTotal(best)) {
                    best = tongue;
                }
            }
            return best;
        }
    }

    /** The frames that a voice is to record, one after the other, and the sessions that they need. */
    private static final class Plan {
        private final int[] needs = new int[MAX_CLAUSES];
        private final int[] fewest = new int[MAX_CLAUSES + 1];
        private int count;
        private int strength;
        private int stamina;

        void start(int newStrength, int newStamina) {
            count = 0;
            strength = newStrength;
            stamina = newStamina;
        }

        void add(int need) {
            if (count < needs.length) {
                put(needs, count, need);
                count++;
            }
        }

        boolean hasTooLong() {
            for (int index = 0; index < count; index++) {
                if (at(needs, index) > stamina) {
                    return true;
                }
            }
            return false;
        }

        int goThrough() {
            if (count == 0) {
                return 0;
            }
            int sessions = 1;
            int left = strength;
            for (int index = 0; index < count; index++) {
                int need = at(needs, index);
                if (need > left) {
                    sessions++;
                    left = stamina;
                }
                left -= need;
            }
            return sessions;
        }

        int fillTable() {
            if (count == 0) {
                return 0;
            }
            put(fewest, 0, 1);
            for (int many = 1; many <= count; many++) {
                put(fewest, many, fewestFor(many));
            }
            return at(fewest, count);
        }

        /** Tries every way to fill the last session of the first ones; the sessions before are in the table. */
        private int fewestFor(int many) {
            int best = many + 1;
            int together = 0;
            for (int from = many - 1; from >= 0; from--) {
                together += at(needs, from);
                if (together <= stamina) {
                    best = Math.min(best, at(fewest, from) + 1);
                }
            }
            return together <= strength ? 1 : best;
        }
    }

    /** The buffer, and the parts that were read of it. */
    private static final class ClauseText {
        private static final int AT_REEL = 0;
        private static final int AT_SPEAKER = 1;
        private static final int AT_LIPS = 2;
        private static final int AT_SIGH = 3;

        final int[] signs = new int[MAX_SIGNS];
        int length;

        final int[] reels = new int[MAX_SIGNS];
        final int[] speakers = new int[MAX_SIGNS];
        final int[] lips = new int[MAX_SIGNS];
        final int[] sighs = new int[MAX_SIGNS];
        /** The number of the part that is read. */
        int part;
        private int expected;

        void putSign(int code) {
            if (length < signs.length) {
                put(signs, length, code);
                length++;
            }
        }

        /** Returns the index of the first syntax error; the length if there is none. */
        int readToError() {
            part = 0;
            expected = AT_REEL;
            for (int index = 0; index < length; index++) {
                if (!accepts(at(signs, index))) {
                    return index;
                }
            }
            return length;
        }

        boolean readWhole() {
            if (readToError() < length) {
                return false;
            }
            return expected == AT_LIPS && at(lips, part) >= MIN_LIPS
                    || expected == AT_SIGH && at(sighs, part) >= 1;
        }

        boolean hasSighBeyondLips(int parts) {
            for (int index = 0; index < parts; index++) {
                if (at(sighs, index) > at(lips, index)) {
                    return true;
                }
            }
            return false;
        }

        private boolean accepts(int code) {
            switch (expected) {
                case AT_REEL:
                    return acceptsReel(code);
                case AT_SPEAKER:
                    return acceptsSpeaker(code);
                case AT_LIPS:
                    return acceptsLips(code);
                default:
                    return acceptsSigh(code);
            }
        }

        private boolean acceptsReel(int code) {
            if (code < '0' || code >= '0' + REELS) {
                return false;
            }
            put(reels, part, code - '0');
            expected = AT_SPEAKER;
            return true;
        }

        private boolean acceptsSpeaker(int code) {
            if (code < 'A' || code >= 'A' + STATES) {
                return false;
            }
            put(speakers, part, code - 'A');
            put(lips, part, 0);
            put(sighs, part, 0);
            expected = AT_LIPS;
            return true;
        }

        private boolean acceptsLips(int code) {
            if (code >= '0' && code <= '9') {
                return acceptsDigit(lips, code, MAX_LIPS);
            }
            if (at(lips, part) < MIN_LIPS) {
                return false;
            }
            if (code == '~') {
                expected = AT_SIGH;
                return true;
            }
            return acceptsEnd(code);
        }

        private boolean acceptsSigh(int code) {
            if (code >= '0' && code <= '9') {
                return acceptsDigit(sighs, code, MAX_SIGH);
            }
            return at(sighs, part) >= 1 && acceptsEnd(code);
        }

        /** Lips below MIN_LIPS can still grow, so only the upper bound makes a digit an error. */
        private boolean acceptsDigit(int[] row, int code, int most) {
            int frames = at(row, part) * 10 + code - '0';
            if (frames < 1 || frames > most) {
                return false;
            }
            put(row, part, frames);
            return true;
        }

        private boolean acceptsEnd(int code) {
            if (code != ';') {
                return false;
            }
            part++;
            expected = AT_REEL;
            return true;
        }
    }

    /** The states from before undoable calls, the oldest one first. */
    private static final class History {
        private final Treaty[] states = new Treaty[MAX_SAVED];
        int count;

        History() {
            for (int index = 0; index < states.length; index++) {
                states[index] = new Treaty();
            }
        }

        void push(Treaty treaty) {
            if (count >= states.length) {
                dropOldest();
            }
            Treaty row = treatyAt(states, count);
            if (row != null) {
                row.becomeLike(treaty);
                count++;
            }
        }

        void popInto(Treaty treaty) {
            if (count > 0 && treaty != null) {
                count--;
                treaty.becomeLike(treatyAt(states, count));
            }
        }

        /** The oldest row goes behind the others, to be used again. */
        private void dropOldest() {
            Treaty oldest = treatyAt(states, 0);
            for (int index = 1; index < states.length; index++) {
                states[index - 1] = states[index];
            }
            if (states.length > 0) {
                states[states.length - 1] = oldest;
            }
            count--;
        }
    }
}
