import java.lang.reflect.InvocationTargetException;
import java.lang.reflect.Method;
import java.util.ArrayDeque;
import java.util.ArrayList;
import java.util.Arrays;
import java.util.Comparator;
import java.util.Deque;
import java.util.List;
import java.util.Map;
import java.util.TreeMap;
import java.util.TreeSet;
import java.util.regex.Matcher;
import java.util.regex.Pattern;

/**
 * Long runs of calls on an object and on a second, plain model of the document, written in another way; each answer
 * and each digest must be the same. The numbers come from a fixed row, so each run is the same every time.
 */
public final class SighTreatiesModel {
    private static final int OBJECTS = 400;
    private static final int CALLS = 512;

    // ---- the model

    private static final class Translation {
        int frames;
        int annexed;
        Integer session;

        Translation copy() {
            Translation t = new Translation();
            t.frames = frames;
            t.annexed = annexed;
            t.session = session;
            return t;
        }
    }

    private static final class Clause {
        int reel;
        int state;
        int lips;
        int sigh;
        final Translation[] in = new Translation[3];

        Clause copy() {
            Clause c = new Clause();
            c.reel = reel;
            c.state = state;
            c.lips = lips;
            c.sigh = sigh;
            for (int t = 0; t < 3; t++) {
                c.in[t] = in[t] == null ? null : in[t].copy();
            }
            return c;
        }

        boolean recordedSomewhere() {
            return Arrays.stream(in).anyMatch(t -> t != null && t.session != null);
        }
    }

    private static final class World {
        final List<Clause> clauses = new ArrayList<>();
        final int[][] stamina = new int[5][3];
        final int[][] used = new int[5][3];
        /** The signatures of the reels that are mixed, by reel and tongue. */
        final Map<String, TreeSet<Integer>> mixed = new TreeMap<>();
        int session;
        int recordings;
        int wiped;
        int mixes;

        World copy() {
            World w = new World();
            for (Clause c : clauses) {
                w.clauses.add(c.copy());
            }
            for (int s = 0; s < 5; s++) {
                w.stamina[s] = stamina[s].clone();
                w.used[s] = used[s].clone();
            }
            mixed.forEach((key, signers) -> w.mixed.put(key, new TreeSet<>(signers)));
            w.session = session;
            w.recordings = recordings;
            w.wiped = wiped;
            w.mixes = mixes;
            return w;
        }
    }

    public static final class Model {
        private static final String PART = "([0-3])([A-E])([4-9]|[1-5][0-9]|60)(?:~(20|1[0-9]|[1-9]))?";
        private static final Pattern TEXT = Pattern.compile(PART + "(?:;" + PART + ")*");

        private World w = new World();
        private final World[] slots = new World[2];
        private final Deque<World> saved = new ArrayDeque<>();
        private String buffer = "";

        public Model() {
            for (int s = 0; s < 5; s++) {
                w.stamina[s] = new int[] {60, 70, 80};
            }
        }

        private static void index(int number, int size) {
            if (number < 0 || number >= size) {
                throw new IndexOutOfBoundsException();
            }
        }

        private static void range(int number, int least, int most) {
            if (number < least || number > most) {
                throw new IllegalArgumentException();
            }
        }

        private static void state(boolean allowed) {
            if (!allowed) {
                throw new IllegalStateException();
            }
        }

        private Clause clause(int clause) {
            index(clause, w.clauses.size());
            return w.clauses.get(clause);
        }

        private Translation translation(int clause, int tongue) {
            Clause c = clause(clause);
            index(tongue, 3);
            return c.in[tongue];
        }

        private static String key(int reel, int tongue) {
            index(reel, 4);
            index(tongue, 3);
            return reel + "/" + tongue;
        }

        private void save() {
            saved.addLast(w.copy());
            if (saved.size() > 6) {
                saved.removeFirst();
            }
        }

        private void unmix(int reel) {
            for (int t = 0; t < 3; t++) {
                w.mixed.remove(key(reel, t));
            }
        }

        public int addClause(int reel, int state, int lips) {
            index(reel, 4);
            index(state, 5);
            range(lips, 4, 60);
            state(w.clauses.size() < 24);
            save();
            add(reel, state, lips, 0);
            return w.clauses.size() - 1;
        }

        private void add(int reel, int state, int lips, int sigh) {
            Clause c = new Clause();
            c.reel = reel;
            c.state = state;
            c.lips = lips;
            c.sigh = sigh;
            w.clauses.add(c);
            unmix(reel);
        }

        public int changeLips(int clause, int lips) {
            Clause c = clause(clause);
            range(lips, 4, 60);
            state(!c.recordedSomewhere() && lips >= c.sigh);
            save();
            int before = c.lips;
            c.lips = lips;
            return before;
        }

        public int changeSigh(int clause, int frames) {
            Clause c = clause(clause);
            range(frames, 0, 20);
            state(!c.recordedSomewhere() && frames <= c.lips);
            save();
            int before = c.sigh;
            c.sigh = frames;
            return before;
        }

        public int moveClause(int clause, int reel) {
            Clause c = clause(clause);
            index(reel, 4);
            state(!c.recordedSomewhere() && c.reel != reel);
            save();
            int before = c.reel;
            c.reel = reel;
            unmix(reel);
            return before;
        }

        public int translate(int clause, int tongue, int frames) {
            Translation t = translation(clause, tongue);
            range(frames, 1, 60);
            state(t == null || t.session == null);
            save();
            Translation made = new Translation();
            made.frames = frames;
            w.clauses.get(clause).in[tongue] = made;
            return roomFor(clause, tongue);
        }

        public int annex(int clause, int tongue, int frames) {
            Translation t = translation(clause, tongue);
            range(frames, 1, 59);
            state(t != null && t.session == null && t.frames > frames && annexOf(tongue) + frames < 100);
            save();
            t.frames -= frames;
            t.annexed += frames;
            return annexOf(tongue);
        }

        public int bringBack(int clause, int tongue) {
            Translation t = translation(clause, tongue);
            state(t != null && t.session == null && t.annexed > 0);
            save();
            int back = t.annexed;
            t.frames += back;
            t.annexed = 0;
            return back;
        }

        public int cast(int state, int tongue, int stamina) {
            int before = staminaOf(state, tongue);
            range(stamina, 20, 120);
            state(stamina >= w.used[state][tongue]);
            save();
            w.stamina[state][tongue] = stamina;
            return before;
        }

        public int record(int clause, int tongue) {
            state(reasonAgainst(clause, tongue) == 0);
            save();
            Clause c = clause(clause);
            c.in[tongue].session = w.session;
            w.used[c.state][tongue] += c.in[tongue].frames + c.sigh;
            w.recordings++;
            return strengthLeft(c.state, tongue);
        }

        public int wipe(int clause, int tongue) {
            int session = sessionOf(clause, tongue);
            save();
            Clause c = clause(clause);
            c.in[tongue].session = null;
            w.mixed.remove(key(c.reel, tongue));
            w.wiped++;
            return session;
        }

        public int nextSession() {
            state(w.session < 999);
            save();
            w.session++;
            for (int[] row : w.used) {
                Arrays.fill(row, 0);
            }
            return w.session;
        }

        public int mix(int reel, int tongue) {
            state(isComplete(reel, tongue) && !isMixed(reel, tongue));
            save();
            w.mixed.put(key(reel, tongue), new TreeSet<>());
            w.mixes++;
            return on(reel).stream().mapToInt(c -> c.lips - c.sigh - c.in[tongue].frames).sum();
        }

        public int sign(int state, int reel, int tongue) {
            index(state, 5);
            String key = key(reel, tongue);
            state(w.mixed.containsKey(key) && speaksIn(state, reel) && !w.mixed.get(key).contains(state));
            save();
            w.mixed.get(key).add(state);
            return missingOn(reel, tongue);
        }

        public int append(int code) {
            range(code, 33, 126);
            state(buffer.length() < 60);
            buffer += (char) code;
            return buffer.length();
        }

        public int clearBuffer() {
            int before = buffer.length();
            buffer = "";
            return before;
        }

        public int firstError() {
            for (int length = 1; length <= buffer.length(); length++) {
                Matcher m = TEXT.matcher(buffer.substring(0, length));
                if (!m.matches() && !m.hitEnd()) {
                    return length - 1;
                }
            }
            return buffer.length();
        }

        public int load() {
            if (!TEXT.matcher(buffer).matches()) {
                throw new IllegalArgumentException();
            }
            List<int[]> parts = new ArrayList<>();
            for (String part : buffer.split(";")) {
                Matcher m = Pattern.compile(PART).matcher(part);
                m.matches();
                int sigh = m.group(4) == null ? 0 : Integer.parseInt(m.group(4));
                parts.add(new int[] {m.group(1).charAt(0) - '0', m.group(2).charAt(0) - 'A',
                    Integer.parseInt(m.group(3)), sigh});
            }
            state(parts.size() + w.clauses.size() <= 24);
            state(parts.stream().allMatch(p -> p[3] <= p[2]));
            save();
            parts.forEach(p -> add(p[0], p[1], p[2], p[3]));
            buffer = "";
            return w.clauses.size();
        }

        public void keep(int slot) {
            range(slot, 0, 1);
            slots[slot] = w.copy();
        }

        public void goBack(int slot) {
            range(slot, 0, 1);
            state(slots[slot] != null);
            save();
            w = slots[slot].copy();
        }

        public void undo() {
            state(!saved.isEmpty());
            w = saved.removeLast();
        }

        public int savedStates() {
            return saved.size();
        }

        public int clauses() {
            return w.clauses.size();
        }

        public int reelOf(int clause) {
            return clause(clause).reel;
        }

        public int speakerOf(int clause) {
            return clause(clause).state;
        }

        public int lipsOf(int clause) {
            return clause(clause).lips;
        }

        public int sighOf(int clause) {
            return clause(clause).sigh;
        }

        public boolean isTranslated(int clause, int tongue) {
            return translation(clause, tongue) != null;
        }

        public int framesOf(int clause, int tongue) {
            state(isTranslated(clause, tongue));
            return translation(clause, tongue).frames;
        }

        public int annexedOf(int clause, int tongue) {
            return isTranslated(clause, tongue) ? translation(clause, tongue).annexed : 0;
        }

        public boolean isRecorded(int clause, int tongue) {
            return isTranslated(clause, tongue) && translation(clause, tongue).session != null;
        }

        public int sessionOf(int clause, int tongue) {
            state(isRecorded(clause, tongue));
            return translation(clause, tongue).session;
        }

        private int together(int clause, int tongue) {
            return framesOf(clause, tongue) + sighOf(clause);
        }

        public int roomFor(int clause, int tongue) {
            int frames = together(clause, tongue);
            return lipsOf(clause) - frames;
        }

        public boolean fits(int clause, int tongue) {
            return isTranslated(clause, tongue) && lipsOf(clause) >= together(clause, tongue);
        }

        public int hundredthsOf(int clause, int tongue) {
            return together(clause, tongue) * 100 / lipsOf(clause);
        }

        public int reasonAgainst(int clause, int tongue) {
            if (!isTranslated(clause, tongue)) {
                return 1;
            }
            if (isRecorded(clause, tongue)) {
                return 2;
            }
            if (!fits(clause, tongue)) {
                return 3;
            }
            return together(clause, tongue) > strengthLeft(speakerOf(clause), tongue) ? 4 : 0;
        }

        public int staminaOf(int state, int tongue) {
            index(state, 5);
            index(tongue, 3);
            return w.stamina[state][tongue];
        }

        public int strengthLeft(int state, int tongue) {
            return staminaOf(state, tongue) - w.used[state][tongue];
        }

        public int framesOfVoice(int state, int tongue) {
            index(state, 5);
            index(tongue, 3);
            int sum = 0;
            for (int c = 0; c < clauses(); c++) {
                sum += speakerOf(c) == state && isRecorded(c, tongue) ? together(c, tongue) : 0;
            }
            return sum;
        }

        private List<Integer> ready(int state, int tongue) {
            List<Integer> list = new ArrayList<>();
            for (int c = 0; c < clauses(); c++) {
                int reason = reasonAgainst(c, tongue);
                if (speakerOf(c) == state && (reason == 0 || reason == 4)) {
                    list.add(together(c, tongue));
                }
            }
            return list;
        }

        /** Tries all ways to divide what comes from there on, with this strength in the session that goes on. */
        private static int fewest(List<Integer> needs, int from, int strength, int stamina) {
            if (from == needs.size()) {
                return 0;
            }
            int best = Integer.MAX_VALUE;
            int sum = 0;
            for (int to = from; to <= needs.size() && sum <= strength; to++) {
                int rest = to == needs.size() ? 0 : to == from && strength == stamina ? 999
                    : 1 + fewest(needs, to, stamina, stamina);
                best = Math.min(best, rest);
                sum += to < needs.size() ? needs.get(to) : 0;
            }
            return best;
        }

        public int sessionsByGoing(int state, int tongue) {
            int strength = strengthLeft(state, tongue);
            List<Integer> needs = ready(state, tongue);
            int stamina = staminaOf(state, tongue);
            state(needs.stream().allMatch(need -> need <= stamina));
            return needs.isEmpty() ? 0 : 1 + fewest(needs, 0, strength, stamina);
        }

        public int sessionsByTable(int state, int tongue) {
            return sessionsByGoing(state, tongue);
        }

        private List<Clause> on(int reel) {
            index(reel, 4);
            List<Clause> list = new ArrayList<>(w.clauses);
            list.removeIf(c -> c.reel != reel);
            return list;
        }

        public int clausesIn(int reel) {
            return on(reel).size();
        }

        public int lengthOf(int reel) {
            return on(reel).stream().mapToInt(c -> c.lips).sum();
        }

        public boolean speaksIn(int state, int reel) {
            index(state, 5);
            return on(reel).stream().anyMatch(c -> c.state == state);
        }

        public boolean isComplete(int reel, int tongue) {
            key(reel, tongue);
            return !on(reel).isEmpty()
                && on(reel).stream().allMatch(c -> c.in[tongue] != null && c.in[tongue].session != null);
        }

        public boolean isMixed(int reel, int tongue) {
            return w.mixed.containsKey(key(reel, tongue));
        }

        private TreeSet<Integer> signers(int reel, int tongue) {
            return w.mixed.getOrDefault(key(reel, tongue), new TreeSet<>());
        }

        public boolean hasSigned(int state, int reel, int tongue) {
            index(state, 5);
            return signers(reel, tongue).contains(state);
        }

        public int signaturesOn(int reel, int tongue) {
            return signers(reel, tongue).size();
        }

        public int missingOn(int reel, int tongue) {
            TreeSet<Integer> missing = new TreeSet<>();
            on(reel).forEach(c -> missing.add(c.state));
            missing.removeAll(signers(reel, tongue));
            return missing.size();
        }

        public int annexOf(int tongue) {
            index(tongue, 3);
            return w.clauses.stream().mapToInt(c -> c.in[tongue] == null ? 0 : c.in[tongue].annexed).sum();
        }

        public int recordedIn(int tongue) {
            index(tongue, 3);
            int sum = 0;
            for (int c = 0; c < clauses(); c++) {
                sum += isRecorded(c, tongue) ? 1 : 0;
            }
            return sum;
        }

        public int readyByClauses(int tongue) {
            index(tongue, 3);
            int sum = 0;
            for (int c = 0; c < clauses(); c++) {
                sum += fits(c, tongue) && !isRecorded(c, tongue) ? together(c, tongue) : 0;
            }
            return sum;
        }

        public int readyByVoices(int tongue) {
            return readyByClauses(tongue);
        }

        public boolean isRatified(int tongue) {
            index(tongue, 3);
            for (Clause c : w.clauses) {
                if (!isMixed(c.reel, tongue) || !hasSigned(c.state, c.reel, tongue)) {
                    return false;
                }
            }
            return !w.clauses.isEmpty();
        }

        public int misfitsIn(int tongue) {
            index(tongue, 3);
            int sum = 0;
            for (int c = 0; c < clauses(); c++) {
                sum += reasonAgainst(c, tongue) == 3 ? 1 : 0;
            }
            return sum;
        }

        public int session() {
            return w.session;
        }

        public int recordings() {
            return w.recordings;
        }

        public int wiped() {
            return w.wiped;
        }

        public int mixes() {
            return w.mixes;
        }

        public int leastAnnex(int clause, int tongue) {
            int frames = framesOf(clause, tongue);
            for (int less = 0; less < frames; less++) {
                if (frames - less + sighOf(clause) <= lipsOf(clause)) {
                    return less;
                }
            }
            throw new IllegalStateException();
        }

        public int longestSigh(int clause) {
            Clause c = clause(clause);
            for (int sigh = Math.min(20, c.lips); sigh >= 0; sigh--) {
                int tried = sigh;
                if (Arrays.stream(c.in).allMatch(t -> t == null || t.frames + tried <= c.lips)) {
                    return sigh;
                }
            }
            throw new IllegalStateException();
        }

        public int nextClause(int tongue) {
            index(tongue, 3);
            List<Integer> can = new ArrayList<>();
            for (int c = 0; c < clauses(); c++) {
                if (reasonAgainst(c, tongue) == 0) {
                    can.add(c);
                }
            }
            state(!can.isEmpty());
            can.sort(Comparator.comparing((Integer c) -> -together(c, tongue)).thenComparing(c -> c));
            return can.get(0);
        }

        public int bestTongue() {
            List<Integer> tongues = new ArrayList<>(List.of(0, 1, 2));
            tongues.sort(Comparator.comparing(t -> -recordedIn(t)));
            return tongues.get(0);
        }

        public int loudestState() {
            int[] lips = new int[5];
            w.clauses.forEach(c -> lips[c.state] += c.lips);
            int most = Arrays.stream(lips).max().getAsInt();
            int state = 0;
            while (lips[state] != most) {
                state++;
            }
            return state;
        }

        public double meanFit(int tongue) {
            index(tongue, 3);
            List<Integer> all = new ArrayList<>();
            for (int c = 0; c < clauses(); c++) {
                if (isTranslated(c, tongue)) {
                    all.add(hundredthsOf(c, tongue));
                }
            }
            return all.stream().mapToInt(h -> h).average().orElse(0.0);
        }

        private interface Question {
            int answer();
        }

        private static int oneMore(Question question) {
            try {
                return question.answer() + 1;
            } catch (IllegalStateException e) {
                return 0;
            }
        }

        public long digest() {
            List<Object> all = new ArrayList<>();
            all.add(clauses());
            for (int number = 0; number < clauses(); number++) {
                int c = number;
                all.addAll(List.of(reelOf(c), speakerOf(c), lipsOf(c), sighOf(c), oneMore(() -> longestSigh(c))));
                for (int tongue = 0; tongue < 3; tongue++) {
                    int t = tongue;
                    boolean is = isTranslated(c, t);
                    all.addAll(List.of(is ? framesOf(c, t) : 0, annexedOf(c, t), isRecorded(c, t), reasonAgainst(c, t)));
                    if (is) {
                        all.addAll(List.of(roomFor(c, t), hundredthsOf(c, t), oneMore(() -> leastAnnex(c, t))));
                    }
                }
            }
            for (int state = 0; state < 5; state++) {
                for (int tongue = 0; tongue < 3; tongue++) {
                    int s = state;
                    int t = tongue;
                    int sessions = oneMore(() -> sessionsByGoing(s, t));
                    all.addAll(List.of(staminaOf(s, t), strengthLeft(s, t), framesOfVoice(s, t), sessions, sessions));
                }
            }
            for (int r = 0; r < 4; r++) {
                all.addAll(List.of(clausesIn(r), lengthOf(r)));
                for (int t = 0; t < 3; t++) {
                    all.addAll(List.of(isComplete(r, t), isMixed(r, t), signaturesOn(r, t), missingOn(r, t)));
                }
            }
            for (int tongue = 0; tongue < 3; tongue++) {
                int t = tongue;
                all.addAll(List.of(annexOf(t), recordedIn(t), readyByClauses(t), readyByVoices(t), isRatified(t)));
                all.addAll(List.of(misfitsIn(t), oneMore(() -> nextClause(t)), Double.doubleToLongBits(meanFit(t))));
            }
            all.addAll(List.of(session(), recordings(), wiped(), mixes(), bestTongue(), loudestState(), savedStates()));
            all.addAll(List.of(slots[0] != null, slots[1] != null, buffer.length()));
            buffer.chars().forEach(all::add);
            long hash = 4229;
            for (Object value : all) {
                long number = value instanceof Boolean ? ((Boolean) value ? 1 : 0) : ((Number) value).longValue();
                hash = 31 * hash + number;
            }
            return hash;
        }
    }

    // ---- the runs

    private final Map<String, Method> ofTheClass = new TreeMap<>();
    private final Map<String, Method> ofTheModel = new TreeMap<>();
    private final List<String> questions = new ArrayList<>();
    private final Map<String, Integer> seen = new TreeMap<>();

    private long seed;
    private SighTreaties x;
    private Model model;
    private int calls;
    private int reels;
    private int states;
    private int tongues;
    private StringBuilder story;

    private SighTreatiesModel() throws NoSuchMethodException {
        List<String> changes = List.of("addClause", "changeLips", "changeSigh", "moveClause", "translate", "annex",
            "bringBack", "cast", "record", "wipe", "nextSession", "mix", "sign", "append", "clearBuffer", "load",
            "keep", "goBack", "undo");
        for (Method m : SighTreaties.class.getDeclaredMethods()) {
            if (java.lang.reflect.Modifier.isPublic(m.getModifiers())) {
                ofTheClass.put(m.getName(), m);
                ofTheModel.put(m.getName(), Model.class.getDeclaredMethod(m.getName(), m.getParameterTypes()));
                if (!changes.contains(m.getName())) {
                    questions.add(m.getName());
                }
            }
        }
        questions.sort(Comparator.naturalOrder());
    }

    private int below(int bound) {
        seed = seed * 6364136223846793005L + 1442695040888963407L;
        return (int) ((seed >>> 33) % bound);
    }

    private int between(int least, int most) {
        return least + below(most - least + 1);
    }

    private static Object answer(Method method, Object object, Object[] args) throws IllegalAccessException {
        try {
            Object answer = method.invoke(object, args);
            return answer == null ? "nothing" : answer;
        } catch (InvocationTargetException e) {
            return "throws " + e.getCause().getClass().getName();
        }
    }

    private Object call(String name, Object... args) throws IllegalAccessException {
        calls++;
        if (calls > CALLS) {
            throw new IllegalStateException("nothing is promised after call " + CALLS);
        }
        Object got = answer(ofTheClass.get(name), x, args);
        Object want = answer(ofTheModel.get(name), model, args);
        if (!name.equals("digest")) {
            story.append(name).append(Arrays.toString(args)).append(' ').append(want).append('\n');
        }
        String kind = want instanceof Boolean || want.toString().startsWith("throws ") ? name + " " + want : name;
        seen.merge(kind, 1, Integer::sum);
        if (!got.equals(want)) {
            System.out.print(story);
            System.out.println(name + Arrays.toString(args) + " answered " + got + ", due is " + want);
            System.exit(1);
        }
        return want;
    }

    private int outside(int least, int most) {
        int[] numbers = {least - 1, most + 1, Integer.MIN_VALUE, Integer.MAX_VALUE};
        return numbers[below(numbers.length)];
    }

    /** Mostly a number that there is, and sometimes one below or above. */
    private int number(int size) {
        return below(25) == 0 ? outside(0, size - 1) : below(Math.max(1, size));
    }

    private int value(int least, int most) {
        return below(25) == 0 ? outside(least, most) : between(least, most);
    }

    /** A number for a text, where one that is far outside would use up too many calls. */
    private int nearValue(int least, int most) {
        return below(25) == 0 ? (below(2) == 0 ? least - 1 : most + 1) : between(least, most);
    }

    private int clause() {
        return number(model.clauses());
    }

    private int reel() {
        return below(25) == 0 ? number(4) : below(reels);
    }

    private int nearReel() {
        return below(25) == 0 ? below(5) : below(reels);
    }

    private int speaker() {
        return below(25) == 0 ? number(5) : below(states);
    }

    private int nearState() {
        return below(25) == 0 ? below(6) : below(states);
    }

    private int tongue() {
        return below(25) == 0 ? number(3) : below(tongues);
    }

    private int fitting(int clause, int tongue) {
        if (clause < 0 || clause >= model.clauses() || below(4) == 0) {
            return value(1, 60);
        }
        return Math.max(1, model.lipsOf(clause) - model.sighOf(clause) + between(-8, 2));
    }

    private void write() throws IllegalAccessException {
        String parts = "0123ABCDE~;~;456789019Z";
        int length = calls < CALLS - 200 && below(6) == 0 ? 14 : between(1, 3);
        for (int i = 0; i < length; i++) {
            if (below(12) == 0) {
                call("append", (int) parts.charAt(below(parts.length())));
                call("append", value(33, 126));
                continue;
            }
            String part = (i == 0 ? "" : ";") + nearReel() + (char) ('A' + nearState()) + nearValue(4, 60)
                + (below(3) == 0 ? "~" + nearValue(1, 20) : "");
            for (char sign : part.toCharArray()) {
                call("append", (int) sign);
            }
        }
        call("firstError");
        Object loaded = call("load");
        if (loaded instanceof String && below(4) != 0) {
            call("clearBuffer");
        }
    }

    private void change() throws IllegalAccessException {
        int clause = clause();
        int tongue = tongue();
        switch (below(32)) {
            case 0: case 1: call("addClause", reel(), speaker(), value(4, 60)); break;
            case 2: call("changeLips", clause, below(2) == 0 ? value(4, 60) : value(4, 12)); break;
            case 3: call("changeSigh", clause, value(0, 20)); break;
            case 4: call("moveClause", clause, reel()); break;
            case 5: case 6: case 7: case 8: case 9:
                call("translate", clause, tongue, fitting(clause, tongue)); break;
            case 10: case 11: call("annex", clause, tongue, below(2) == 0 ? value(1, 59) : between(1, 10)); break;
            case 12: call("bringBack", clause, tongue); break;
            case 13: call("cast", speaker(), tongue, value(20, 120)); break;
            case 14: case 15: case 16: case 17: call("record", clause, tongue); break;
            case 18: call("wipe", clause, tongue); break;
            case 19: case 20: call("nextSession"); break;
            case 21: case 22: case 23: call("mix", reel(), tongue); break;
            case 24: case 25: case 26: call("sign", speaker(), reel(), tongue); break;
            case 27: write(); break;
            case 28: call("keep", value(0, 1)); break;
            case 29: call("goBack", value(0, 1)); break;
            case 30: case 31:
                for (int i = below(3); i >= 0; i--) {
                    call("undo");
                }
                break;
            default: break;
        }
    }

    /** Does what leads on to a tongue that is ratified. */
    private void goOn() throws IllegalAccessException {
        int tongue = below(tongues);
        for (int c = 0; c < model.clauses(); c++) {
            if (model.misfitsIn(tongue) > 0 || !model.isTranslated(c, tongue)) {
                if (!model.fits(c, tongue)) {
                    call("translate", c, tongue, Math.max(1, model.lipsOf(c) - model.sighOf(c) - below(5)));
                    return;
                }
            } else if (model.reasonAgainst(c, tongue) == 0) {
                call("record", c, tongue);
                return;
            }
        }
        for (int reel = 0; reel < 4; reel++) {
            if (model.isComplete(reel, tongue) && !model.isMixed(reel, tongue)) {
                call("mix", reel, tongue);
                return;
            }
            for (int state = 0; state < 5; state++) {
                if (model.isMixed(reel, tongue) && model.speaksIn(state, reel)
                    && !model.hasSigned(state, reel, tongue)) {
                    call("sign", state, reel, tongue);
                    return;
                }
            }
        }
        if (below(3) == 0) {
            call("nextSession");
        }
    }

    private void ask() throws IllegalAccessException {
        String name = questions.get(below(questions.size()));
        int size = ofTheClass.get(name).getParameterCount();
        Object[] args = new Object[size];
        boolean startsWithState = List.of("staminaOf", "strengthLeft", "framesOfVoice", "sessionsByGoing",
            "sessionsByTable", "speaksIn", "hasSigned").contains(name);
        boolean startsWithReel = List.of("clausesIn", "lengthOf", "isComplete", "isMixed", "signaturesOn", "missingOn")
            .contains(name);
        if (size == 3) {
            args = new Object[] {number(5), number(4), number(3)};
        } else if (name.equals("speaksIn")) {
            args = new Object[] {number(5), number(4)};
        } else if (size == 2) {
            args = new Object[] {startsWithState ? number(5) : startsWithReel ? number(4) : clause(), number(3)};
        } else if (size == 1) {
            boolean isOfClause = List.of("reelOf", "speakerOf", "lipsOf", "sighOf", "longestSigh").contains(name);
            args = new Object[] {isOfClause ? clause() : startsWithReel ? number(4) : number(3)};
        }
        call(name, args);
    }

    private void run(int number) throws IllegalAccessException {
        seed = number * 7919L + 17;
        below(2);
        x = new SighTreaties();
        model = new Model();
        story = new StringBuilder();
        calls = 0;
        reels = between(1, 4);
        states = between(1, 5);
        tongues = between(1, 3);
        int most = number % 7 == 0 ? 24 : between(1, 8);
        while (model.clauses() < most) {
            call("addClause", below(reels), below(states), between(4, 60));
        }
        boolean leadsOn = number % 2 == 0;
        while (calls < CALLS - 40) {
            if (leadsOn && below(3) != 0) {
                goOn();
            } else {
                change();
            }
            call("digest");
            ask();
        }
    }

    /** Runs that never meet an answer or an exception would prove nothing of it. */
    private boolean hasSeenAll() {
        boolean all = true;
        for (Method m : ofTheClass.values()) {
            List<String> kinds = new ArrayList<>(List.of(m.getName()));
            if (m.getReturnType() == boolean.class) {
                kinds = new ArrayList<>(List.of(m.getName() + " true", m.getName() + " false"));
            }
            for (Class<?> kind : m.getExceptionTypes()) {
                kinds.add(m.getName() + " throws " + kind.getName());
            }
            kinds.remove("nextSession throws java.lang.IllegalStateException");
            for (String kind : kinds) {
                if (!seen.containsKey(kind)) {
                    System.out.println("never met: " + kind);
                    all = false;
                }
            }
        }
        return all;
    }

    public static void main(String[] args) throws ReflectiveOperationException {
        SighTreatiesModel runs = new SighTreatiesModel();
        for (int number = 0; number < OBJECTS; number++) {
            runs.run(number);
        }
        if (!runs.hasSeenAll()) {
            System.exit(1);
        }
        System.out.println(OBJECTS + " runs answer as the model does");
    }
}
