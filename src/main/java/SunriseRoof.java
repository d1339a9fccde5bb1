import java.util.Arrays;

/** A house on the waste that must stand with smoke by sunrise. README.md tells how it is used. */
public final class SunriseRoof {
    public static final int NONE = -1;

    private static final int BAD_NUMBER = -1;
    private static final int NO_SUCH = -2;
    private static final int CANNOT_BE = -3;
    private static final int NO_ROOM = -5;
    private static final int BAD_TEXT = -6;

    private static final int PART_ROOM = 10;
    private static final int BUILDER_ROOM = 6;
    private static final int SIGHT_ROOM = 8;
    private static final int LAW_ROOM = 6;
    private static final int IMAGE_ROOM = 2;
    private static final int TAPE_ROOM = 400;
    private static final int FED_BYTES = 20;
    private static final int PART_BYTES = 4;
    private static final int CLAUSE_ROOM = 12;
    private static final int CRAFT_ROOM = 4;

    private static final int HOUR = 0;
    private static final int NIGHT = 1;
    private static final int RAIN = 2;
    private static final int MOOD = 3;
    private static final int TERM_ROOM = 4;
    private static final int[] TERM_LEAST = {0, 1, 0, 0};
    private static final int[] TERM_MOST = {999, 99, 10, 9};
    private static final int[] TERM_FIRST = {0, 30, 2, 0};
    private static final int LAST_HOUR = 999;

    // Kinds of a law's clauses, in the order in which asks() numbers them.
    private static final int WORKS = 0;
    private static final int TIRES = 1;
    private static final int SHOWS = 2;
    private static final int BARS = 3;
    private static final int[] MOST_TOLD = {20, 20, 10, 1};

    // Kinds of an order's clauses, in the order in which undo() numbers them.
    private static final int SEND = 0;
    private static final int REST = 1;
    private static final int THROW = 2;
    private static final int TICK = 3;

    // The pieces of a clause, in the order in which they are written.
    private static final int FIRST_SUM = 0;
    private static final int SECOND_SUM = 1;
    private static final int IF_TEST = 2;
    private static final int PIECES = 3;

    // No SUM that is not BROKEN comes near it.
    private static final long BROKEN = -1_000_000_000_000L;
    private static final long SUM_LIMIT = 1_000_000_000L;
    private static final long CERTAIN = 1_000_000_000_000L;
    private static final int PLAN_TICKS = 200;
    private static final int LOOK_TICKS = 40;
    private static final int SIGHT_TICKS = 99;

    private final Site now = new Site();
    private final Past past = new Past();
    private final Deeds deeds = new Deeds(now, past);
    private final Runner runner = new Runner(now, past, deeds);
    private final Reader reader = new Reader();
    private final Planner planner = new Planner(now);
    private final Study study = new Study(now, planner);
    private final Sequences sequences = new Sequences(now);
    private final Draws draws = new Draws(planner);
    private final Site[] images = new Site[IMAGE_ROOM];
    private final byte[] tape = new byte[TAPE_ROOM];
    private final int[] refusals = new int[5];
    private int tapeSize = 0;
    private int faultPlace = NONE;
    private int chaffCount = 0;
    private int stoppedClause = NONE;
    private int latestStatus = 0;

    public SunriseRoof() {
    }

    public int part(int work, int needs, int craft, int heavy) {
        int number = now.addPart(work, needs, craft, heavy);
        if (number < 0) {
            return refuse(number);
        }
        past.clear();
        return agreeChanged(number);
    }

    public int of(int part, int what) {
        if (!now.hasPart(part)) {
            return NONE;
        }
        switch (what) {
            case 0:
                return now.work[part];
            case 1:
                return now.needs[part];
            case 2:
                return now.craft[part];
            case 3:
                return now.heavy[part];
            case 4:
                return now.left[part];
            case 5:
                return now.readyMask() >> part & 1;
            case 6:
                now.reckonChains();
                return now.slate.chain[part];
            default:
                return NONE;
        }
    }

    public int builder(int crafts, int pace) {
        int number = now.addBuilder(crafts, pace);
        if (number < 0) {
            return refuse(number);
        }
        past.clear();
        return agreeChanged(number);
    }

    public int at(int builder, int what) {
        if (!now.hasBuilder(builder)) {
            return NONE;
        }
        switch (what) {
            case 0:
                return now.crafts[builder];
            case 1:
                return now.pace[builder];
            case 2:
                return now.tired[builder];
            case 3:
                return now.place[builder];
            default:
                return NONE;
        }
    }

    public int asks(int builder, int part, int what) {
        if (!now.hasBuilder(builder) || !now.hasPart(part) || what < 0 || what >= MOST_TOLD.length) {
            return NONE;
        }
        return now.asked(what, builder, part);
    }

    public int terms(int what, int value) {
        if (what < 0 || what >= TERM_ROOM || value < TERM_LEAST[what] || value > TERM_MOST[what]) {
            return refuse(BAD_NUMBER);
        }
        int was = now.term[what];
        now.term[what] = value;
        past.clear();
        return agreeChanged(was);
    }

    public int feed(int a, int b, int c, int d, int e) {
        if (tapeSize < 0 || tapeSize > TAPE_ROOM - FED_BYTES) {
            return NONE;
        }
        writeNumber(tapeSize, a);
        writeNumber(tapeSize + 4, b);
        writeNumber(tapeSize + 8, c);
        writeNumber(tapeSize + 12, d);
        writeNumber(tapeSize + 16, e);
        tapeSize += FED_BYTES;
        return tapeSize;
    }

    public int end(int n) {
        if (n < 0 || n > tapeSize) {
            return NONE;
        }
        tapeSize = n;
        return n;
    }

    public int row() {
        int size = emptyTape();
        if (size == 0) {
            return refuse(BAD_TEXT);
        }
        int came = 0;
        int lost = 0;
        for (int i = 0; i < size; i += PART_BYTES) {
            if (i + PART_BYTES <= size && addWrittenPart(i)) {
                came++;
            } else {
                lost++;
            }
        }
        chaffCount = lost;
        past.clear();
        return agreeChanged(came);
    }

    public int chaff() {
        return chaffCount;
    }

    public int law() {
        int size = emptyTape();
        if (now.lawCount < 0 || now.lawCount >= LAW_ROOM) {
            return refuse(NO_ROOM);
        }
        faultPlace = reader.read(tape, size, false);
        if (faultPlace != NONE) {
            return refuse(BAD_TEXT);
        }
        int number = now.lawCount;
        now.laws[number] = reader.draft.copy();
        now.lawCount = number + 1;
        return agree(number);
    }

    public int orders() {
        int size = emptyTape();
        stoppedClause = NONE;
        faultPlace = reader.read(tape, size, true);
        if (faultPlace != NONE) {
            return refuse(BAD_TEXT);
        }
        stoppedClause = runner.runAll(reader.draft);
        if (stoppedClause != NONE) {
            return refuse(CANNOT_BE);
        }
        return agreeChanged(runner.done);
    }

    public int fault() {
        return faultPlace;
    }

    public int stopped() {
        return stoppedClause;
    }

    public int force(int law) {
        if (law != NONE && (law < 0 || law >= now.lawCount)) {
            return refuse(NO_SUCH);
        }
        int was = now.inForce;
        now.inForce = law;
        return agreeChanged(was);
    }

    public int stands(int what) {
        switch (what) {
            case 0:
                return now.upMask();
            case 1:
                return now.readyMask();
            default:
                return NONE;
        }
    }

    public int send(int builder, int part) {
        return settle(deeds.sendBuilder(builder, part));
    }

    public int rest(int builder) {
        return settle(deeds.restBuilder(builder));
    }

    public int throwDown(int part) {
        return settle(deeds.razePart(part));
    }

    public int tick() {
        return settle(deeds.passTick());
    }

    public int undo() {
        return settle(past.restoreLatest(now));
    }

    public int longest() {
        return now.reckonChains();
    }

    public int rows(int i, int place) {
        return i == NONE ? sequences.total() : sequences.partAt(i, place);
    }

    public int plan(int part) {
        if (part == NONE) {
            return study.planTicks();
        }
        return now.hasPart(part) ? study.planStood(part) : NONE;
    }

    public int hands(int what) {
        if (what != 0 && what != 1) {
            return NONE;
        }
        int set = study.fewestHands();
        return what == 0 && set != NONE ? Integer.bitCount(set) : set;
    }

    public int taught(int what) {
        return what < 0 || what > 2 ? NONE : study.bestLesson(what);
    }

    public long unseen(int n) {
        return n < 0 || n > SIGHT_TICKS ? NONE : planner.chanceUnseen(n);
    }

    public int sight(int k, int part, int stood) {
        if (k < 0 || k > SIGHT_TICKS || stood < 0 || stood > 1) {
            return refuse(BAD_NUMBER);
        }
        if (!now.hasPart(part)) {
            return refuse(NO_SUCH);
        }
        if (now.sights < 0 || now.sights >= SIGHT_ROOM) {
            return refuse(NO_ROOM);
        }
        now.sightTick[now.sights] = k;
        now.sightPart[now.sights] = part;
        now.sightStood[now.sights] = stood;
        now.sights++;
        return agree(now.sights);
    }

    public int forget() {
        int were = now.sights;
        now.sights = 0;
        return were;
    }

    public int whose(int i) {
        return study.suspects(i);
    }

    public int look(int what) {
        return what == 0 || what == 1 ? study.nextLook(what) : NONE;
    }

    public int nights(int seed, int n) {
        if (seed < 0 || seed > Draws.MOST_SEED || n < 1 || n > Draws.MOST_NIGHTS) {
            return refuse(BAD_NUMBER);
        }
        return agree(draws.drawNights(seed, n));
    }

    public int drawn(int k, int what) {
        return draws.endOf(k, what);
    }

    public int image(int k) {
        if (k < 0 || k >= IMAGE_ROOM) {
            return refuse(BAD_NUMBER);
        }
        if (images[k] == null) {
            images[k] = new Site();
        }
        images[k].copyFrom(now);
        return agree(0);
    }

    public int back(int k) {
        if (k < 0 || k >= IMAGE_ROOM) {
            return refuse(BAD_NUMBER);
        }
        if (images[k] == null) {
            return refuse(NO_SUCH);
        }
        now.copyFrom(images[k]);
        past.clear();
        return agreeChanged(0);
    }

    public int count(int what) {
        if (what >= 7 && what <= 11) {
            return refusals[what - 7];
        }
        if (what >= 13 && what <= 16) {
            return now.term[what - 13];
        }
        switch (what) {
            case 0:
                return now.parts;
            case 1:
                return Integer.bitCount(now.upMask());
            case 2:
                return now.builders;
            case 3:
                return now.sights;
            case 4:
                return now.lawCount;
            case 5:
                return past.kept;
            case 6:
                return tapeSize;
            case 12:
                return now.inForce;
            default:
                return NONE;
        }
    }

    public int status() {
        return latestStatus;
    }

    private int refuse(int by) {
        int place = by == NO_ROOM ? 3 : by == BAD_TEXT ? 4 : -by - 1;
        if (place >= 0 && place < refusals.length) {
            refusals[place]++;
        }
        latestStatus = by;
        return by;
    }

    private int agree(int answer) {
        latestStatus = 0;
        return answer;
    }

    private int agreeChanged(int answer) {
        // What was reckoned on paper is asked of the state as it was.
        study.clear();
        sequences.clear();
        return agree(answer);
    }

    private int settle(int answer) {
        return answer < 0 ? refuse(answer) : agreeChanged(answer);
    }

    private int emptyTape() {
        int size = tapeSize;
        tapeSize = 0;
        return size;
    }

    private void writeNumber(int from, int number) {
        for (int i = 0; i < 4; i++) {
            if (from + i >= 0 && from + i < tape.length) {
                tape[from + i] = (byte) (number >> 24 - 8 * i);
            }
        }
    }

    private boolean addWrittenPart(int from) {
        if (from < 0 || from + 3 >= tape.length) {
            return false;
        }
        int number = now.addPart(tape[from] & 255, tape[from + 1] & 255, tape[from + 2] & 255, tape[from + 3] & 255);
        return number >= 0;
    }

    /** Rows that a Site writes on anew at every asking, so that no asking makes rows of its own. */
    private static final class Slate {
        final long[] words = new long[Reader.LAW_WORDS];
        final long[] stack = new long[Text.STACK_ROOM];
        final int[] works = new int[BUILDER_ROOM];
        final int[] tires = new int[BUILDER_ROOM];
        final int[] chain = new int[PART_ROOM];
    }

    /** All that an image keeps: the state as it is now, on paper, or as it was. */
    private static final class Site {
        int parts = 0;
        final int[] work = new int[PART_ROOM];
        final int[] needs = new int[PART_ROOM];
        final int[] craft = new int[PART_ROOM];
        final int[] heavy = new int[PART_ROOM];
        final int[] left = new int[PART_ROOM];
        int builders = 0;
        final int[] crafts = new int[BUILDER_ROOM];
        final int[] pace = new int[BUILDER_ROOM];
        final int[] tired = new int[BUILDER_ROOM];
        final int[] place = new int[BUILDER_ROOM];
        final int[] term = TERM_FIRST.clone();
        int sights = 0;
        final int[] sightTick = new int[SIGHT_ROOM];
        final int[] sightPart = new int[SIGHT_ROOM];
        final int[] sightStood = new int[SIGHT_ROOM];
        final Text[] laws = new Text[LAW_ROOM];
        int lawCount = 0;
        int inForce = NONE;
        final Slate slate = new Slate();

        void copyFrom(Site other) {
            parts = other.parts;
            System.arraycopy(other.work, 0, work, 0, PART_ROOM);
            System.arraycopy(other.needs, 0, needs, 0, PART_ROOM);
            System.arraycopy(other.craft, 0, craft, 0, PART_ROOM);
            System.arraycopy(other.heavy, 0, heavy, 0, PART_ROOM);
            System.arraycopy(other.left, 0, left, 0, PART_ROOM);
            builders = other.builders;
            System.arraycopy(other.crafts, 0, crafts, 0, BUILDER_ROOM);
            System.arraycopy(other.pace, 0, pace, 0, BUILDER_ROOM);
            System.arraycopy(other.tired, 0, tired, 0, BUILDER_ROOM);
            System.arraycopy(other.place, 0, place, 0, BUILDER_ROOM);
            System.arraycopy(other.term, 0, term, 0, TERM_ROOM);
            sights = other.sights;
            System.arraycopy(other.sightTick, 0, sightTick, 0, SIGHT_ROOM);
            System.arraycopy(other.sightPart, 0, sightPart, 0, SIGHT_ROOM);
            System.arraycopy(other.sightStood, 0, sightStood, 0, SIGHT_ROOM);
            for (int i = 0; i < LAW_ROOM; i++) {
                laws[i] = other.laws[i];
            }
            lawCount = other.lawCount;
            inForce = other.inForce;
        }

        boolean hasPart(int p) {
            return p >= 0 && p < parts && p < PART_ROOM;
        }

        boolean hasBuilder(int b) {
            return b >= 0 && b < builders && b < BUILDER_ROOM;
        }

        int addPart(int newWork, int newNeeds, int newCraft, int newHeavy) {
            boolean lowerAlone = (newNeeds & -1 << parts) == 0;
            if (newWork < 1 || newWork > 99 || !lowerAlone || newCraft < 0 || newCraft >= CRAFT_ROOM
                    || newHeavy < 0 || newHeavy > 9) {
                return BAD_NUMBER;
            }
            if (parts < 0 || parts >= PART_ROOM) {
                return NO_ROOM;
            }
            work[parts] = newWork;
            needs[parts] = newNeeds;
            craft[parts] = newCraft;
            heavy[parts] = newHeavy;
            left[parts] = newWork;
            parts++;
            return parts - 1;
        }

        int addBuilder(int newCrafts, int newPace) {
            if (newCrafts < 1 || newCrafts > 15 || newPace < 1 || newPace > 9) {
                return BAD_NUMBER;
            }
            if (builders < 0 || builders >= BUILDER_ROOM) {
                return NO_ROOM;
            }
            crafts[builders] = newCrafts;
            pace[builders] = newPace;
            tired[builders] = 0;
            place[builders] = NONE;
            builders++;
            return builders - 1;
        }

        int upMask() {
            int mask = 0;
            for (int p = 0; p < parts && p < PART_ROOM; p++) {
                if (left[p] == 0) {
                    mask |= 1 << p;
                }
            }
            return mask;
        }

        int readyMask() {
            int up = upMask();
            int mask = 0;
            for (int p = 0; p < parts && p < PART_ROOM; p++) {
                if (left[p] != 0 && (needs[p] & ~up) == 0) {
                    mask |= 1 << p;
                }
            }
            return mask;
        }

        /** Writes the CHAIN of each PART on the slate: the longest of them. */
        int reckonChains() {
            int longestOfAll = 0;
            for (int p = Math.min(parts, PART_ROOM) - 1; p >= 0; p--) {
                int above = 0;
                for (int q = p + 1; q < parts && q < PART_ROOM; q++) {
                    if ((needs[q] >> p & 1) == 1 && left[q] != 0 && slate.chain[q] > above) {
                        above = slate.chain[q];
                    }
                }
                slate.chain[p] = left[p] + above;
                longestOfAll = Math.max(longestOfAll, slate.chain[p]);
            }
            return longestOfAll;
        }

        /** What a BUILDER and a PART are asked by a LAW's kind of clause; 1 of BARS, if it is BARRED. */
        int asked(int kind, int b, int p) {
            if (kind < 0 || kind >= MOST_TOLD.length || !hasBuilder(b) || !hasPart(p)) {
                return 0;
            }
            Text text = inForce >= 0 && inForce < LAW_ROOM ? laws[inForce] : null;
            if (text == null) {
                return withoutLaw(kind, b, p);
            }
            boolean written = false;
            for (int c = Math.min(text.clauses, CLAUSE_ROOM) - 1; c >= 0; c--) {
                if (text.kinds[c] != kind) {
                    continue;
                }
                if (!written) {
                    writeWords(b, p);
                    written = true;
                }
                if (text.reckon(c, IF_TEST, slate.words, slate.stack) == 1) {
                    long told = text.reckon(c, FIRST_SUM, slate.words, slate.stack);
                    if (told != BROKEN) {
                        return (int) Math.max(0, Math.min(MOST_TOLD[kind], told));
                    }
                }
            }
            return withoutLaw(kind, b, p);
        }

        private int withoutLaw(int kind, int b, int p) {
            if (kind == WORKS) {
                return hasCraft(b, p) ? pace[b] : 0;
            }
            return kind == BARS ? 0 : 1;
        }

        private boolean hasCraft(int b, int p) {
            return (crafts[b] >> craft[p] & 1) == 1;
        }

        /** Writes the words' values in the order in which Reader.WORDS has a LAW's words. */
        private void writeWords(int b, int p) {
            int others = 0;
            for (int other = 0; other < builders && other < BUILDER_ROOM; other++) {
                if (other != b && place[other] == p) {
                    others++;
                }
            }
            slate.words[0] = b;
            slate.words[1] = pace[b];
            slate.words[2] = tired[b];
            slate.words[3] = p;
            slate.words[4] = crafts[b] >> craft[p] & 1;
            slate.words[5] = heavy[p];
            slate.words[6] = left[p];
            slate.words[7] = others;
            slate.words[8] = term[HOUR];
            slate.words[9] = term[MOOD];
        }

        /** A tick, whatever the HOUR: how many PARTS came to STAND in it. */
        int workOneTick() {
            for (int b = 0; b < builders && b < BUILDER_ROOM; b++) {
                if (hasPart(place[b])) {
                    slate.works[b] = asked(WORKS, b, place[b]);
                    slate.tires[b] = asked(TIRES, b, place[b]);
                }
            }
            int before = upMask();
            for (int b = 0; b < builders && b < BUILDER_ROOM; b++) {
                int p = place[b];
                if (hasPart(p)) {
                    left[p] = Math.max(0, left[p] - slate.works[b]);
                    tired[b] = Math.min(99, tired[b] + slate.tires[b]);
                } else {
                    tired[b] = Math.max(0, tired[b] - 2);
                }
            }
            for (int b = 0; b < builders && b < BUILDER_ROOM; b++) {
                if (hasPart(place[b]) && left[place[b]] == 0) {
                    place[b] = NONE;
                }
            }
            term[HOUR]++;
            return Integer.bitCount(upMask() & ~before);
        }
    }

    /** A read TEXT: its clauses, each with up to two SUMS and a TEST, as code for a stack. */
    private static final class Text {
        // Each of nine levels of brackets leaves two values waiting at most, a comparison one.
        static final int STACK_ROOM = 32;
        private static final int ARGUMENT_BITS = 12;
        private static final int ARGUMENT_MASK = 4095;

        static final int PUSH = 0;
        static final int ASK = 1;
        static final int NOT = 2;
        static final int SKIP_IF_SO = 3;
        static final int SKIP_UNLESS = 4;
        static final int ADD = 5;
        static final int LESS = 6;
        static final int TIMES = 7;
        static final int DIVIDE = 8;
        static final int REMAIN = 9;
        static final int BELOW = 10;
        static final int ABOVE = 11;
        static final int SAME = 12;

        int clauses = 0;
        final int[] kinds = new int[CLAUSE_ROOM];
        final int[] times = new int[CLAUSE_ROOM];
        /** Where each piece of each clause begins in the code; behind the last one, where it ends. */
        private final int[] marks = new int[CLAUSE_ROOM * PIECES + 1];
        private final int[] code;
        private int size = 0;

        Text(int room) {
            code = new int[Math.max(0, room)];
        }

        Text copy() {
            Text other = new Text(size);
            other.clauses = clauses;
            System.arraycopy(kinds, 0, other.kinds, 0, CLAUSE_ROOM);
            System.arraycopy(times, 0, other.times, 0, CLAUSE_ROOM);
            System.arraycopy(marks, 0, other.marks, 0, marks.length);
            other.size = other.code.length;
            System.arraycopy(code, 0, other.code, 0, other.size);
            return other;
        }

        void clear() {
            clauses = 0;
            size = 0;
            Arrays.fill(marks, 0);
        }

        boolean open(int kind) {
            if (clauses < 0 || clauses >= CLAUSE_ROOM) {
                return false;
            }
            kinds[clauses] = kind;
            times[clauses] = 1;
            clauses++;
            return true;
        }

        void repeat(int often) {
            if (clauses > 0 && clauses <= CLAUSE_ROOM) {
                times[clauses - 1] = often;
            }
        }

        /** A piece of the latest clause ends where the code ends now. */
        void close(int piece) {
            int mark = (clauses - 1) * PIECES + piece + 1;
            if (mark > 0 && mark < marks.length) {
                marks[mark] = size;
            }
        }

        int emit(int operation, int argument) {
            if (size < 0 || size >= code.length) {
                return NONE;
            }
            code[size] = operation << ARGUMENT_BITS | argument & ARGUMENT_MASK;
            size++;
            return size - 1;
        }

        /** A skip that was emitted goes to where the code ends now. */
        void land(int skip) {
            if (skip >= 0 && skip < size && skip < code.length) {
                code[skip] = code[skip] & ~ARGUMENT_MASK | size & ARGUMENT_MASK;
            }
        }

        /** A piece of a clause: its value, a TEST's 1 or 0, or BROKEN; 1, if it was not written. */
        long reckon(int clause, int piece, long[] words, long[] stack) {
            int mark = clause * PIECES + piece;
            if (mark < 0 || mark + 1 >= marks.length || marks[mark] < 0 || marks[mark + 1] > code.length) {
                return BROKEN;
            }
            int to = marks[mark + 1];
            if (marks[mark] >= to) {
                return 1;
            }
            int top = 0;
            for (int spot = marks[mark]; spot < to; spot++) {
                int operation = code[spot] >> ARGUMENT_BITS;
                int argument = code[spot] & ARGUMENT_MASK;
                if (operation <= ASK) {
                    if (top >= stack.length || operation == ASK && argument >= words.length) {
                        return BROKEN;
                    }
                    stack[top] = operation == PUSH ? argument : words[argument];
                    top++;
                } else if (top < 1) {
                    return BROKEN;
                } else if (operation == NOT) {
                    stack[top - 1] = 1 - stack[top - 1];
                } else if (operation <= SKIP_UNLESS) {
                    if (stack[top - 1] != 0 == (operation == SKIP_IF_SO)) {
                        // Skips lead onwards alone, so that the loop has an end.
                        spot = argument > spot ? argument - 1 : to;
                    } else {
                        top--;
                    }
                } else if (top < 2) {
                    return BROKEN;
                } else {
                    long value = joined(operation, stack[top - 2], stack[top - 1]);
                    if (value == BROKEN) {
                        return BROKEN;
                    }
                    top--;
                    stack[top - 1] = value;
                }
            }
            return top == 1 ? stack[0] : BROKEN;
        }

        private static long joined(int operation, long a, long b) {
            long value;
            switch (operation) {
                case ADD:
                    value = a + b;
                    break;
                case LESS:
                    value = a - b;
                    break;
                case TIMES:
                    value = a * b;
                    break;
                case DIVIDE:
                    value = b == 0 ? BROKEN : a / b;
                    break;
                case REMAIN:
                    value = b == 0 ? BROKEN : a % b;
                    break;
                case BELOW:
                    return a < b ? 1 : 0;
                case ABOVE:
                    return a > b ? 1 : 0;
                default:
                    return a == b ? 1 : 0;
            }
            return value < -SUM_LIMIT || value > SUM_LIMIT ? BROKEN : value;
        }
    }

    /** Reads the TAPE as a LAW or as ORDERS into its draft. */
    private static final class Reader {
        static final int LAW_WORDS = 10;
        // Where the words' values stand in the row that ORDERS are asked by.
        static final int ORDER_HOUR = 0;
        static final int ORDER_DONE = 1;
        static final int ORDER_STOOD = 2;
        static final int ORDER_STANDING = 3;
        static final int ORDER_LEFT = 4;
        static final int ORDER_TIRED = ORDER_LEFT + PART_ROOM;
        static final int ORDER_AT = ORDER_TIRED + BUILDER_ROOM;
        static final int ORDER_WORDS = ORDER_AT + BUILDER_ROOM;

        private static final int MOST_NUMBER = 1000;
        private static final int MOST_TIMES = 20;
        private static final int MOST_OPERANDS = 50;
        private static final int MOST_DEPTH = 8;

        // A TOKEN is held as one number: a NUMBER as itself, all others as these.
        private static final int TOO_MUCH = 1001;
        private static final int UNKNOWN = 1002;
        private static final int WORD = 2000;
        private static final int SIGN = 3000;
        private static final int END = 4000;

        // Each word ends with a blank; its number is how many stand ahead of it.
        private static final String WORDS = "or and not if works tires shows bars builder pace tired part craft heavy left with hour mood send rest throw tick to times done stood standing at ";
        private static final int OR = WORD;
        private static final int AND = WORD + 1;
        private static final int NOT = WORD + 2;
        private static final int IF = WORD + 3;
        private static final int LAW_HEAD = WORD + 4;
        private static final int LAW_WORD = WORD + 8;
        private static final int TIRED = WORD + 10;
        private static final int LEFT = WORD + 14;
        private static final int HOUR_WORD = WORD + 16;
        private static final int ORDER_HEAD = WORD + 18;
        private static final int TO = WORD + 22;
        private static final int TIMES = WORD + 23;
        private static final int DONE = WORD + 24;
        private static final int STOOD = WORD + 25;
        private static final int STANDING = WORD + 26;
        private static final int AT = WORD + 27;
        private static final int HEADS = 4;

        final Text draft = new Text(TAPE_ROOM);
        private final int[] tokens = new int[TAPE_ROOM + 1];
        private final int[] places = new int[TAPE_ROOM + 1];
        private int size = 0;
        private int spot = 0;
        private int operands = 0;
        private boolean ordersMeant = false;

        /** Reads a TEXT: where its FAULT is, NONE without. */
        int read(byte[] tape, int length, boolean isOrders) {
            split(tape, Math.min(length, Math.min(tape.length, TAPE_ROOM)));
            draft.clear();
            spot = 0;
            operands = 0;
            ordersMeant = isOrders;
            for (int c = 0; c < CLAUSE_ROOM; c++) {
                if (!(isOrders ? readOrder() : readRule())) {
                    return placeInHand();
                }
                if (inHand() == IF) {
                    spot++;
                    if (!readTest(0)) {
                        return placeInHand();
                    }
                }
                draft.close(IF_TEST);
                if (inHand() == END) {
                    return NONE;
                }
                if (inHand() != SIGN + ';') {
                    return placeInHand();
                }
                spot++;
            }
            return placeInHand();
        }

        private int inHand() {
            return spot >= 0 && spot < size && spot < tokens.length ? tokens[spot] : END;
        }

        private int placeInHand() {
            return spot >= 0 && spot < size && spot < places.length ? places[spot] : 0;
        }

        private void split(byte[] tape, int length) {
            size = 0;
            int next = 0;
            for (int i = 0; i < length; i++) {
                // A row of letters or digits was taken whole when its first byte came.
                if (i < next || tape[i] == ' ') {
                    continue;
                }
                next = i + 1;
                boolean letters = isLetter(tape[i]);
                if (letters || isDigit(tape[i])) {
                    while (next < length && (letters ? isLetter(tape[next]) : isDigit(tape[next]))) {
                        next++;
                    }
                }
                int token = letters ? wordToken(tape, i, next)
                        : isDigit(tape[i]) ? numberToken(tape, i, next) : SIGN + (tape[i] & 255);
                addToken(token, i);
            }
            addToken(END, length);
        }

        private void addToken(int token, int place) {
            if (size >= 0 && size < tokens.length) {
                tokens[size] = token;
                places[size] = place;
                size++;
            }
        }

        private static boolean isLetter(byte b) {
            return b >= 'a' && b <= 'z';
        }

        private static boolean isDigit(byte b) {
            return b >= '0' && b <= '9';
        }

        private static int numberToken(byte[] tape, int from, int to) {
            int number = 0;
            for (int i = from; i < to && number <= MOST_NUMBER; i++) {
                number = number * 10 + tape[i] - '0';
            }
            return number > MOST_NUMBER ? TOO_MUCH : number;
        }

        private static int wordToken(byte[] tape, int from, int to) {
            int word = WORD;
            int at = from;
            boolean same = true;
            for (int i = 0; i < WORDS.length(); i++) {
                char sign = WORDS.charAt(i);
                if (sign != ' ') {
                    same = same && at < to && tape[at] == sign;
                    at++;
                } else if (same && at == to) {
                    return word;
                } else {
                    word++;
                    at = from;
                    same = true;
                }
            }
            return UNKNOWN;
        }

        private boolean readRule() {
            int kind = inHand() - LAW_HEAD;
            if (kind < 0 || kind >= HEADS || !draft.open(kind)) {
                return false;
            }
            spot++;
            if (kind != BARS && !readSum(0)) {
                return false;
            }
            draft.close(FIRST_SUM);
            draft.close(SECOND_SUM);
            return true;
        }

        private boolean readOrder() {
            int kind = inHand() - ORDER_HEAD;
            if (kind < 0 || kind >= HEADS || !draft.open(kind)) {
                return false;
            }
            spot++;
            if (kind != TICK && !readSum(0)) {
                return false;
            }
            draft.close(FIRST_SUM);
            if (kind == SEND) {
                if (inHand() != TO) {
                    return false;
                }
                spot++;
                if (!readSum(0)) {
                    return false;
                }
            }
            draft.close(SECOND_SUM);
            return readTimes();
        }

        private boolean readTimes() {
            if (inHand() != TIMES) {
                return true;
            }
            spot++;
            int often = inHand();
            if (often < 1 || often > MOST_TIMES) {
                return false;
            }
            spot++;
            draft.repeat(often);
            return true;
        }

        private boolean readTest(int depth) {
            int orSkip = NONE;
            for (int i = 0; i < TAPE_ROOM; i++) {
                int andSkip = NONE;
                for (int j = 0; j < TAPE_ROOM; j++) {
                    if (!readPlain(depth)) {
                        return false;
                    }
                    draft.land(andSkip);
                    if (inHand() != AND) {
                        break;
                    }
                    spot++;
                    andSkip = draft.emit(Text.SKIP_UNLESS, 0);
                }
                draft.land(orSkip);
                if (inHand() != OR) {
                    return true;
                }
                spot++;
                orSkip = draft.emit(Text.SKIP_IF_SO, 0);
            }
            return false;
        }

        private boolean readPlain(int depth) {
            boolean turned = false;
            for (int i = 0; i < TAPE_ROOM && inHand() == NOT; i++) {
                spot++;
                turned = !turned;
            }
            if (inHand() == SIGN + '(') {
                if (depth >= MOST_DEPTH) {
                    return false;
                }
                spot++;
                if (!readTest(depth + 1) || inHand() != SIGN + ')') {
                    return false;
                }
                spot++;
            } else {
                if (!readSum(depth)) {
                    return false;
                }
                int comparing = inHand() == SIGN + '<' ? Text.BELOW : inHand() == SIGN + '>' ? Text.ABOVE
                        : inHand() == SIGN + '=' ? Text.SAME : NONE;
                if (comparing == NONE) {
                    return false;
                }
                spot++;
                if (!readSum(depth)) {
                    return false;
                }
                draft.emit(comparing, 0);
            }
            emitIfAny(turned ? Text.NOT : NONE);
            return true;
        }

        private boolean readSum(int depth) {
            int adding = NONE;
            for (int i = 0; i < TAPE_ROOM; i++) {
                int joining = NONE;
                for (int j = 0; j < TAPE_ROOM; j++) {
                    if (!readOperand(depth)) {
                        return false;
                    }
                    emitIfAny(joining);
                    joining = inHand() == SIGN + '*' ? Text.TIMES : inHand() == SIGN + '/' ? Text.DIVIDE
                            : inHand() == SIGN + '%' ? Text.REMAIN : NONE;
                    if (joining == NONE) {
                        break;
                    }
                    spot++;
                }
                emitIfAny(adding);
                adding = inHand() == SIGN + '+' ? Text.ADD : inHand() == SIGN + '-' ? Text.LESS : NONE;
                if (adding == NONE) {
                    return true;
                }
                spot++;
            }
            return false;
        }

        private void emitIfAny(int operation) {
            if (operation != NONE) {
                draft.emit(operation, 0);
            }
        }

        private boolean readOperand(int depth) {
            int token = inHand();
            if (token == SIGN + '[') {
                if (depth >= MOST_DEPTH) {
                    return false;
                }
                spot++;
                if (!readSum(depth + 1) || inHand() != SIGN + ']') {
                    return false;
                }
                spot++;
                return true;
            }
            if (operands >= MOST_OPERANDS) {
                return false;
            }
            operands++;
            if (token >= 0 && token <= MOST_NUMBER) {
                spot++;
                draft.emit(Text.PUSH, token);
                return true;
            }
            int word = ordersMeant ? takeOrderWord(token) : takeLawWord(token);
            if (word == NONE) {
                return false;
            }
            draft.emit(Text.ASK, word);
            return true;
        }

        /** Where a word's value stands in the row that LAWS are asked by; NONE, if it is no word of theirs. */
        private int takeLawWord(int token) {
            int word = token - LAW_WORD;
            if (word < 0 || word >= LAW_WORDS) {
                return NONE;
            }
            spot++;
            return word;
        }

        /** As takeLawWord, for ORDERS; behind some of their words a NUMBER stands. */
        private int takeOrderWord(int token) {
            int plain = token == HOUR_WORD ? ORDER_HOUR : token == DONE ? ORDER_DONE
                    : token == STOOD ? ORDER_STOOD : token == STANDING ? ORDER_STANDING : NONE;
            if (plain != NONE) {
                spot++;
                return plain;
            }
            int numbered = token == LEFT ? ORDER_LEFT : token == TIRED ? ORDER_TIRED : token == AT ? ORDER_AT : NONE;
            if (numbered == NONE) {
                return NONE;
            }
            spot++;
            int number = inHand();
            if (number < 0 || number >= (numbered == ORDER_LEFT ? PART_ROOM : BUILDER_ROOM)) {
                return NONE;
            }
            spot++;
            return numbered + number;
        }
    }

    /** What can be undone: the latest deeds, each with what it changes as that was ahead of it. */
    private static final class Past {
        private static final int ROOM = 16;
        private static final int LEFT_AT = 2;
        private static final int TIRED_AT = LEFT_AT + PART_ROOM;
        private static final int PLACE_AT = TIRED_AT + BUILDER_ROOM;
        private static final int ROW = PLACE_AT + BUILDER_ROOM;

        int kept = 0;
        /** Where the next row is written; rows go round. */
        private int next = 0;
        private final int[] rows = new int[ROOM * ROW];

        void clear() {
            kept = 0;
            next = 0;
        }

        void copyFrom(Past other) {
            kept = other.kept;
            next = other.next;
            System.arraycopy(other.rows, 0, rows, 0, ROOM * ROW);
        }

        void keep(int deed, Site site) {
            if (next < 0 || next >= ROOM) {
                return;
            }
            int from = next * ROW;
            rows[from] = deed;
            rows[from + 1] = site.term[HOUR];
            System.arraycopy(site.left, 0, rows, from + LEFT_AT, PART_ROOM);
            System.arraycopy(site.tired, 0, rows, from + TIRED_AT, BUILDER_ROOM);
            System.arraycopy(site.place, 0, rows, from + PLACE_AT, BUILDER_ROOM);
            next = (next + 1) % ROOM;
            kept = Math.min(ROOM, kept + 1);
        }

        int restoreLatest(Site site) {
            if (kept <= 0) {
                return CANNOT_BE;
            }
            kept--;
            next = (next + ROOM - 1) % ROOM;
            int from = next * ROW;
            site.term[HOUR] = rows[from + 1];
            System.arraycopy(rows, from + LEFT_AT, site.left, 0, PART_ROOM);
            System.arraycopy(rows, from + TIRED_AT, site.tired, 0, BUILDER_ROOM);
            System.arraycopy(rows, from + PLACE_AT, site.place, 0, BUILDER_ROOM);
            return rows[from];
        }
    }

    /** What is done to the site and can be undone: each answers, or tells what it is REFUSED by. */
    private static final class Deeds {
        private final Site site;
        private final Past past;

        Deeds(Site site, Past past) {
            this.site = site;
            this.past = past;
        }

        int sendBuilder(int b, int p) {
            if (!site.hasBuilder(b) || !site.hasPart(p)) {
                return NO_SUCH;
            }
            if ((site.readyMask() >> p & 1) == 0 || site.asked(BARS, b, p) == 1) {
                return CANNOT_BE;
            }
            past.keep(SEND, site);
            site.place[b] = p;
            return site.left[p];
        }

        int restBuilder(int b) {
            if (!site.hasBuilder(b)) {
                return NO_SUCH;
            }
            int p = site.place[b];
            if (p == NONE) {
                return CANNOT_BE;
            }
            past.keep(REST, site);
            site.place[b] = NONE;
            return p;
        }

        int razePart(int p) {
            if (!site.hasPart(p)) {
                return NO_SUCH;
            }
            if (site.left[p] != 0 || isBuiltOn(p)) {
                return CANNOT_BE;
            }
            past.keep(THROW, site);
            site.left[p] = site.work[p];
            return site.work[p];
        }

        int passTick() {
            if (site.term[HOUR] >= LAST_HOUR) {
                return CANNOT_BE;
            }
            past.keep(TICK, site);
            return site.workOneTick();
        }

        /** Whether a PART that NEEDS this one is begun, stands, or has a BUILDER AT it. */
        private boolean isBuiltOn(int p) {
            for (int q = 0; q < site.parts && q < PART_ROOM; q++) {
                if ((site.needs[q] >> p & 1) == 1 && (site.left[q] < site.work[q] || hasAnybody(q))) {
                    return true;
                }
            }
            return false;
        }

        private boolean hasAnybody(int p) {
            for (int b = 0; b < site.builders && b < BUILDER_ROOM; b++) {
                if (site.place[b] == p) {
                    return true;
                }
            }
            return false;
        }
    }

    /** Runs ORDERS, wholly or not at all. */
    private static final class Runner {
        private final Site site;
        private final Past past;
        private final Deeds deeds;
        private final Site siteAhead = new Site();
        private final Past pastAhead = new Past();
        private final long[] words = new long[Reader.ORDER_WORDS];
        int done = 0;
        private int stood = NONE;

        Runner(Site site, Past past, Deeds deeds) {
            this.site = site;
            this.past = past;
            this.deeds = deeds;
        }

        /** Which clause could not be, so that all is as it was; NONE, if all could. */
        int runAll(Text text) {
            siteAhead.copyFrom(site);
            pastAhead.copyFrom(past);
            done = 0;
            stood = NONE;
            for (int c = 0; c < text.clauses && c < CLAUSE_ROOM; c++) {
                for (int i = 0; i < text.times[c]; i++) {
                    if (!runOnce(text, c)) {
                        site.copyFrom(siteAhead);
                        past.copyFrom(pastAhead);
                        return c;
                    }
                }
            }
            return NONE;
        }

        private boolean runOnce(Text text, int clause) {
            writeWords();
            if (text.reckon(clause, IF_TEST, words, site.slate.stack) != 1) {
                return true;
            }
            long first = text.reckon(clause, FIRST_SUM, words, site.slate.stack);
            long second = text.reckon(clause, SECOND_SUM, words, site.slate.stack);
            if (first == BROKEN || second == BROKEN) {
                return false;
            }
            int kind = text.kinds[clause];
            int told;
            if (kind == SEND) {
                told = deeds.sendBuilder((int) first, (int) second);
            } else if (kind == REST) {
                told = deeds.restBuilder((int) first);
            } else if (kind == THROW) {
                told = deeds.razePart((int) first);
            } else {
                told = deeds.passTick();
                stood = told;
            }
            done++;
            return told >= 0;
        }

        private void writeWords() {
            words[Reader.ORDER_HOUR] = site.term[HOUR];
            words[Reader.ORDER_DONE] = done;
            words[Reader.ORDER_STOOD] = stood;
            words[Reader.ORDER_STANDING] = Integer.bitCount(site.upMask());
            for (int p = 0; p < PART_ROOM; p++) {
                words[Reader.ORDER_LEFT + p] = site.hasPart(p) ? site.left[p] : NONE;
            }
            for (int b = 0; b < BUILDER_ROOM; b++) {
                words[Reader.ORDER_TIRED + b] = site.hasBuilder(b) ? site.tired[b] : NONE;
                words[Reader.ORDER_AT + b] = site.hasBuilder(b) ? site.place[b] : NONE;
            }
        }
    }

    /** The PLAN, on paper. */
    private static final class Planner {
        static final int EVERYBODY = (1 << BUILDER_ROOM) - 1;
        /** A row of a run: behind how many ticks all STAND, then each PART; NONE: not in it. */
        static final int ROW = PART_ROOM + 1;
        static final int NOT_RUN = -2;

        final Site paper = new Site();
        private final Site now;
        private int pupil = NONE;
        private int lesson = 0;

        Planner(Site now) {
            this.now = now;
        }

        /** From here on runs go as if a BUILDER had one CRAFT more; NONE: nobody. */
        void teach(int b, int craft) {
            pupil = b;
            lesson = 1 << craft;
        }

        void begin() {
            paper.copyFrom(now);
            Arrays.fill(paper.place, NONE);
            if (paper.hasBuilder(pupil)) {
                paper.crafts[pupil] |= lesson;
            }
        }

        /** Runs the PLAN of a set, unless its row in rows is written already: that row's first. */
        int run(int set, int limit, int[] rows, int from) {
            if (from < 0 || from + ROW > rows.length) {
                return NONE;
            }
            if (rows[from] != NOT_RUN) {
                return rows[from];
            }
            for (int i = 0; i < ROW; i++) {
                rows[from + i] = NONE;
            }
            begin();
            for (int t = 0; t <= limit; t++) {
                if (noteStanding(t, rows, from)) {
                    rows[from] = t;
                    return t;
                }
                if (t == limit || !canTick()) {
                    return NONE;
                }
                sendFree(set);
                if (isStuck()) {
                    return NONE;
                }
                paper.workOneTick();
            }
            return NONE;
        }

        /** Whether no tick changes anything more: without a LAW nobody asks for the hour or who is tired. */
        private boolean isStuck() {
            if (paper.inForce != NONE) {
                return false;
            }
            for (int b = 0; b < paper.builders && b < BUILDER_ROOM; b++) {
                if (paper.place[b] != NONE) {
                    return false;
                }
            }
            return true;
        }

        boolean canTick() {
            return paper.term[HOUR] < LAST_HOUR;
        }

        boolean allStand() {
            return paper.upMask() == (1 << paper.parts) - 1;
        }

        private boolean noteStanding(int t, int[] rows, int from) {
            int standing = 0;
            for (int p = 0; p < paper.parts && p < PART_ROOM; p++) {
                if (paper.left[p] == 0) {
                    standing++;
                    if (rows[from + 1 + p] == NONE) {
                        rows[from + 1 + p] = t;
                    }
                }
            }
            return standing == paper.parts;
        }

        void sendFree(int set) {
            int[] chain = paper.slate.chain;
            int ready = NONE;
            for (int b = 0; b < paper.builders && b < BUILDER_ROOM; b++) {
                if ((set >> b & 1) == 0 || paper.place[b] != NONE) {
                    continue;
                }
                if (ready == NONE) {
                    // Sending changes neither, so the first who is free reckons for all.
                    ready = paper.readyMask();
                    paper.reckonChains();
                }
                int best = NONE;
                for (int p = 0; p < paper.parts && p < PART_ROOM; p++) {
                    boolean longer = (ready >> p & 1) == 1 && (best == NONE || chain[p] > chain[best]);
                    if (longer && paper.asked(BARS, b, p) == 0 && paper.asked(WORKS, b, p) > 0) {
                        best = p;
                    }
                }
                paper.place[b] = best;
            }
        }

        long chanceUnseen(int n) {
            begin();
            long chance = CERTAIN;
            for (int t = 0; t < n && canTick() && !allStand(); t++) {
                sendFree(EVERYBODY);
                for (int b = 0; b < paper.builders && b < BUILDER_ROOM; b++) {
                    if (paper.hasPart(paper.place[b])) {
                        chance = chance * (10 - paper.asked(SHOWS, b, paper.place[b])) / 10;
                    }
                }
                paper.workOneTick();
            }
            return chance;
        }
    }

    /** What is found by runs of the PLAN; kept till the site changes, as runs are dear. */
    private static final class Study {
        private static final int SETS = 1 << BUILDER_ROOM;

        private final Site site;
        private final Planner planner;
        private final int[] planRow = new int[Planner.ROW];
        private final int[] lessonRow = new int[Planner.ROW];
        private final int[] setRows = new int[SETS * Planner.ROW];
        /** How many ticks the sets' runs have. */
        private int horizon = 0;
        private boolean lessonKnown = false;
        private final int[] lesson = new int[3];
        private final boolean[] fits = new boolean[SETS];
        private final int[] tally = new int[PART_ROOM + 1];

        Study(Site site, Planner planner) {
            this.site = site;
            this.planner = planner;
            planRow[0] = Planner.NOT_RUN;
        }

        void clear() {
            planRow[0] = Planner.NOT_RUN;
            horizon = 0;
            lessonKnown = false;
        }

        int planTicks() {
            return planner.run(Planner.EVERYBODY, PLAN_TICKS, planRow, 0);
        }

        int planStood(int p) {
            planTicks();
            return p >= 0 && p < PART_ROOM ? planRow[1 + p] : NONE;
        }

        /** Of the lesson that helps most its BUILDER (0), CRAFT (1), ticks (2). */
        int bestLesson(int what) {
            if (!lessonKnown) {
                Arrays.fill(lesson, NONE);
                int without = planTicks();
                // A lesson helps only if it is done sooner than all ahead of it.
                int limit = without == NONE ? PLAN_TICKS : without - 1;
                for (int b = 0; b < site.builders && b < BUILDER_ROOM; b++) {
                    for (int c = 0; c < CRAFT_ROOM; c++) {
                        int ticks = (site.crafts[b] >> c & 1) == 1 ? NONE : ticksWith(b, c, limit);
                        if (ticks != NONE) {
                            lesson[0] = b;
                            lesson[1] = c;
                            lesson[2] = ticks;
                            limit = ticks - 1;
                        }
                    }
                }
                lessonKnown = true;
            }
            return what >= 0 && what < lesson.length ? lesson[what] : NONE;
        }

        private int ticksWith(int b, int craft, int limit) {
            planner.teach(b, craft);
            lessonRow[0] = Planner.NOT_RUN;
            int ticks = planner.run(Planner.EVERYBODY, limit, lessonRow, 0);
            planner.teach(NONE, 0);
            return ticks;
        }

        /** Sets' runs that are too short for what is asked now are run anew. */
        private void openSets() {
            int needed = Math.max(LOOK_TICKS, site.term[NIGHT]);
            for (int i = 0; i < site.sights && i < SIGHT_ROOM; i++) {
                needed = Math.max(needed, site.sightTick[i]);
            }
            if (needed > horizon) {
                horizon = needed;
                for (int set = 0; set < SETS; set++) {
                    setRows[set * Planner.ROW] = Planner.NOT_RUN;
                }
            }
        }

        int fewestHands() {
            openSets();
            for (int size = 0; size <= site.builders && size <= BUILDER_ROOM; size++) {
                for (int set = 0; set < 1 << site.builders && set < SETS; set++) {
                    if (Integer.bitCount(set) != size) {
                        continue;
                    }
                    int ticks = planner.run(set, horizon, setRows, set * Planner.ROW);
                    if (ticks != NONE && ticks <= site.term[NIGHT]) {
                        return set;
                    }
                }
            }
            return NONE;
        }

        /** How many sets fit all SIGHTS (i NONE), or the i-th of them. */
        int suspects(int i) {
            openSets();
            int found = 0;
            for (int set = 0; set < 1 << site.builders && set < SETS; set++) {
                planner.run(set, horizon, setRows, set * Planner.ROW);
                fits[set] = fitsAll(set);
                if (fits[set]) {
                    if (found == i) {
                        return set;
                    }
                    found++;
                }
            }
            return i == NONE ? found : NONE;
        }

        private boolean fitsAll(int set) {
            for (int i = 0; i < site.sights && i < SIGHT_ROOM; i++) {
                boolean stood = site.sightStood[i] == 1;
                if (stoodBehind(set, site.sightPart[i], site.sightTick[i]) != stood) {
                    return false;
                }
            }
            return true;
        }

        private boolean stoodBehind(int set, int p, int ticks) {
            int spot = set * Planner.ROW + 1 + p;
            return spot >= 0 && spot < setRows.length && setRows[spot] != NONE && setRows[spot] <= ticks;
        }

        /** When to look next (0), and how many sets are left then at most (1). */
        int nextLook(int what) {
            if (suspects(NONE) == 0) {
                return NONE;
            }
            int best = 0;
            int fewest = SETS + 1;
            for (int t = 0; t <= LOOK_TICKS; t++) {
                int most = mostAlike(t);
                if (most < fewest) {
                    fewest = most;
                    best = t;
                }
            }
            return what == 0 ? best : fewest;
        }

        /** Of the sets that fit, the most that have as many PARTS standing behind a tick. */
        private int mostAlike(int ticks) {
            Arrays.fill(tally, 0);
            int most = 0;
            for (int set = 0; set < 1 << site.builders && set < SETS; set++) {
                if (!fits[set]) {
                    continue;
                }
                int standing = 0;
                for (int p = 0; p < site.parts && p < PART_ROOM; p++) {
                    if (stoodBehind(set, p, ticks)) {
                        standing++;
                    }
                }
                tally[standing]++;
                most = Math.max(most, tally[standing]);
            }
            return most;
        }
    }

    /** All orders in which what does not STAND can be built. */
    private static final class Sequences {
        private static final int MASKS = 1 << PART_ROOM;

        private final Site site;
        /** In how many orders the rest can be built, when these PARTS stand. */
        private final int[] ways = new int[MASKS];
        private boolean known = false;

        Sequences(Site site) {
            this.site = site;
        }

        void clear() {
            known = false;
        }

        int total() {
            reckonWays();
            int up = site.upMask();
            return up >= 0 && up < MASKS ? ways[up] : NONE;
        }

        int partAt(int i, int place) {
            if (i < 0 || i >= total() || place < 0 || place >= PART_ROOM) {
                return NONE;
            }
            int built = site.upMask();
            int ahead = i;
            int chosen = NONE;
            for (int at = 0; at <= place; at++) {
                chosen = NONE;
                for (int p = 0; p < site.parts && p < PART_ROOM && chosen == NONE; p++) {
                    int behind = waysWith(built, p);
                    if (ahead < behind) {
                        chosen = p;
                    } else {
                        ahead -= behind;
                    }
                }
                if (chosen == NONE) {
                    return NONE;
                }
                built |= 1 << chosen;
            }
            return chosen;
        }

        private void reckonWays() {
            if (known) {
                return;
            }
            int up = site.upMask();
            int all = (1 << site.parts) - 1;
            for (int built = Math.min(all, MASKS - 1); built >= 0; built--) {
                if ((built & up) != up) {
                    continue;
                }
                int sum = built == all ? 1 : 0;
                for (int p = 0; p < site.parts && p < PART_ROOM; p++) {
                    sum += waysWith(built, p);
                }
                ways[built] = sum;
            }
            known = true;
        }

        /** In how many orders it goes on, if a PART comes next; 0, if it can't. */
        private int waysWith(int built, int p) {
            boolean canCome = (built >> p & 1) == 0 && (site.needs[p] & ~built) == 0;
            int with = built | 1 << p;
            return canCome && with >= 0 && with < MASKS ? ways[with] : 0;
        }
    }

    /** NIGHTS by draws, on paper; what the last night of the latest ones left is kept. */
    private static final class Draws {
        static final int MOST_SEED = 1_000_000;
        static final int MOST_NIGHTS = 20;

        private final Planner planner;
        private int parts = 0;
        private int builders = 0;
        private final int[] left = new int[PART_ROOM];
        private final int[] tired = new int[BUILDER_ROOM];

        Draws(Planner planner) {
            this.planner = planner;
        }

        int drawNights(int seed, int n) {
            Site paper = planner.paper;
            int drawn = seed;
            int stood = 0;
            for (int night = 0; night < n; night++) {
                planner.begin();
                for (int t = 0; t < paper.term[NIGHT]; t++) {
                    planner.sendFree(Planner.EVERYBODY);
                    drawn = (drawn * 1103 + 12345) % 1_000_003;
                    if (drawn % 10 < paper.term[RAIN]) {
                        paper.term[HOUR]++;
                    } else {
                        paper.workOneTick();
                    }
                }
                if (planner.allStand()) {
                    stood++;
                }
            }
            parts = paper.parts;
            builders = paper.builders;
            System.arraycopy(paper.left, 0, left, 0, PART_ROOM);
            System.arraycopy(paper.tired, 0, tired, 0, BUILDER_ROOM);
            return stood;
        }

        int endOf(int k, int what) {
            if (what == 0 && k >= 0 && k < parts && k < PART_ROOM) {
                return left[k];
            }
            return what == 1 && k >= 0 && k < builders && k < BUILDER_ROOM ? tired[k] : NONE;
        }
    }
}
