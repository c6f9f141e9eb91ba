import java.util.Arrays;

/** Books of what to do when things break, played in a house that may lie and lack people. */
public final class NightBook {
    public static final int NONE = -1;

    private static final int MOST_FACTS = 8;
    private static final int MOST_SIGNS = 8;
    private static final int MOST_PEOPLE = 4;
    private static final int MOST_SKILLS = 8;
    private static final int MOST_BOOKS = 4;
    private static final int MOST_STEPS = 24;
    private static final int MOST_TICKS = 5000;
    private static final int MOST_STEP_TICKS = 60;
    private static final int MOST_BYTES = 600;
    private static final int MOST_PATH = 2000;
    private static final int MOST_PLAYS = 500;
    private static final int MOST_MEND_PLAYS = 20000;
    private static final int MOST_LOG = 200;
    private static final int MOST_LAID = 300;
    private static final int MOST_OF_EACH = 8;
    private static final int ALL_BITS = 255;
    // A night ends with the first step that is over behind MOST_TICKS, so both have ended long before this tick.
    private static final int LAST_TICK = MOST_TICKS + 4 * MOST_STEP_TICKS;

    private static final int NO_TROUBLE = 0;
    private static final int NONE_SUCH = 1;
    private static final int BAD_NUMBER = 2;
    private static final int NO_ROOM = 3;
    private static final int FAULTY = 4;
    private static final int NOT_PLAYED = 5;

    private static final int KIND = 0;
    private static final int FIRST = 1;
    private static final int SECOND = 2;
    private static final int THIRD = 3;
    private static final int HARM_FACT = 4;
    private static final int CELLS = 5;

    private static final int DO_RIGHT = 0;
    private static final int DO_WRONG = 1;
    private static final int ASK = 2;
    private static final int WAIT = 3;
    private static final int GO = 4;
    private static final int CALM = 5;

    private static final int IN_CALM = 0;
    private static final int EARLY = 1;
    private static final int STUCK = 2;
    private static final int HARM = 3;
    private static final int ROUND = 4;
    private static final int OVER = 5;
    private static final int LONG = 6;
    private static final int ENDS = 7;

    /** What the calls have told: the house, its people and the books. */
    private static final class World {
        private int facts = 0;
        private int signs = 0;
        private int people = 0;
        private int books = 0;
        private int goal = ALL_BITS;
        private final int[] factOfSign = new int[MOST_SIGNS];
        private final int[] skills = new int[MOST_PEOPLE];
        // One book more than may be kept: a text is read for its faults even when there is no room.
        private final int[] sizes = new int[MOST_BOOKS + 1];
        private final int[] cells = new int[(MOST_BOOKS + 1) * MOST_STEPS * CELLS];

        boolean hasBook(int book) {
            return book >= 0 && book < books;
        }

        int sizeOf(int book) {
            return book >= 0 && book < sizes.length ? sizes[book] : 0;
        }

        void setSize(int book, int size) {
            if (book >= 0 && book < sizes.length) {
                sizes[book] = size;
            }
        }

        int cell(int book, int k, int what) {
            int index = (book * MOST_STEPS + k) * CELLS + what;
            return index >= 0 && index < cells.length ? cells[index] : 0;
        }

        void setCell(int book, int k, int what, int value) {
            int index = (book * MOST_STEPS + k) * CELLS + what;
            if (index >= 0 && index < cells.length) {
                cells[index] = value;
            }
        }

        int allFacts() {
            return (1 << facts) - 1;
        }

        int allSigns() {
            return (1 << signs) - 1;
        }

        int allPeople() {
            return (1 << people) - 1;
        }

        int factOf(int sign) {
            return sign >= 0 && sign < factOfSign.length ? factOfSign[sign] : 0;
        }

        int skillsOf(int person) {
            return person >= 0 && person < skills.length ? skills[person] : 0;
        }

        void setSkills(int person, int bits) {
            if (person >= 0 && person < skills.length) {
                skills[person] = bits;
            }
        }

        boolean someoneCan(int skill) {
            int had = 0;
            for (int p = 0; p < people; p++) {
                had |= skillsOf(p);
            }
            return (had >> skill & 1) == 1;
        }

        boolean isDo(int book, int k) {
            int kind = cell(book, k, KIND);
            return kind == DO_RIGHT || kind == DO_WRONG;
        }

        boolean isDoable(int book, int k) {
            return !isDo(book, k) || someoneCan(cell(book, k, FIRST));
        }

        /** The steps to which a step leads, as bits; a bit behind the last step stands for the book's end. */
        private int nextOf(int book, int k) {
            int kind = cell(book, k, KIND);
            if (kind == CALM) {
                return 0;
            }
            if (kind == GO) {
                return 1 << cell(book, k, FIRST);
            }
            if (kind == ASK) {
                return 1 << cell(book, k, SECOND) | 1 << cell(book, k, THIRD);
            }
            return 1 << (k + 1);
        }

        /** The steps to which some row of steps leads from step 0, as bits. */
        int reached(int book) {
            int size = sizeOf(book);
            int found = 1;
            // A round that finds nothing new is the last; each other one finds a step.
            for (int round = 0; round <= MOST_STEPS; round++) {
                int before = found;
                for (int k = 0; k < size; k++) {
                    if ((found >> k & 1) == 1) {
                        found |= nextOf(book, k);
                    }
                }
                if (found == before) {
                    break;
                }
            }
            return found & ((1 << size) - 1);
        }
    }

    /** The tape, and how a text on it becomes a book. */
    private static final class Reader {
        private static final int END = 0;
        private static final int WORD = 1;
        private static final int NUMBER = 2;
        private static final int SEMICOLON = 3;
        private static final int NO_TOKEN = 4;

        private static final int MOST_LETTERS = 8;
        private static final int MOST_DIGITS = 2;
        private static final int MOST_NUMBER = 99;

        private static final int FORM = 1;
        private static final int BEYOND = 2;
        private static final int MANY = 3;

        private final int[] tape = new int[MOST_BYTES];
        private int held = 0;
        private int length = 0;
        private int next = 0;
        private int token = END;
        private int start = 0;
        private int value = 0;
        private int taken = 0;
        private int takenAt = 0;
        private int fault = 0;
        private int place = 0;
        private final int[] targets = new int[2 * MOST_STEPS];
        private final int[] targetPlaces = new int[2 * MOST_STEPS];
        private int targetCount = 0;

        boolean hasRoomFor(int bytes) {
            return held + bytes <= MOST_BYTES;
        }

        void put(int number) {
            for (int shift = 24; shift >= 0; shift -= 8) {
                if (held >= 0 && held < tape.length) {
                    tape[held] = number >>> shift & 255;
                    held++;
                }
            }
        }

        private int byteAt(int index) {
            return index >= 0 && index < length && index < tape.length ? tape[index] : NONE;
        }

        private static boolean isBlank(int c) {
            return c == 32 || c == 10;
        }

        private static boolean isLetter(int c) {
            return c >= 'a' && c <= 'z';
        }

        private static boolean isDigit(int c) {
            return c >= '0' && c <= '9';
        }

        private void advance() {
            while (next < length && isBlank(byteAt(next))) {
                next++;
            }
            start = next;
            while (next < length && isLetter(byteAt(next))) {
                next++;
            }
            int letters = next - start;
            if (letters > 0) {
                token = letters <= MOST_LETTERS ? WORD : NO_TOKEN;
                return;
            }
            value = 0;
            while (next < length && isDigit(byteAt(next))) {
                value = value * 10 + byteAt(next) - '0';
                next++;
            }
            int digits = next - start;
            if (digits > 0) {
                token = digits <= MOST_DIGITS ? NUMBER : NO_TOKEN;
                return;
            }
            token = next >= length ? END : byteAt(next) == ';' ? SEMICOLON : NO_TOKEN;
            next++;
        }

        private boolean fail(int number) {
            fault = number;
            place = start;
            return false;
        }

        private boolean isWord(String word) {
            if (token != WORD || next - start != word.length()) {
                return false;
            }
            for (int i = 0; i < word.length(); i++) {
                if (byteAt(start + i) != word.charAt(i)) {
                    return false;
                }
            }
            return true;
        }

        private boolean takeWord(String word) {
            if (!isWord(word)) {
                return fail(FORM);
            }
            advance();
            return true;
        }

        private boolean takeNumber(int least, int most) {
            if (token != NUMBER) {
                return fail(FORM);
            }
            if (value < least || value > most) {
                return fail(BEYOND);
            }
            taken = value;
            takenAt = start;
            advance();
            return true;
        }

        private boolean keep(World world, int k, int what) {
            world.setCell(world.books, k, what, taken);
            return true;
        }

        /** Keeps a step's number; whether there is such a step is known only behind the whole text. */
        private boolean keepTarget(World world, int k, int what) {
            if (targetCount >= 0 && targetCount < targets.length) {
                targets[targetCount] = taken;
                targetPlaces[targetCount] = takenAt;
                targetCount++;
            }
            return keep(world, k, what);
        }

        private boolean beginsStep() {
            return isWord("do") || isWord("ask") || isWord("wait") || isWord("go") || isWord("calm");
        }

        /** Reads the first bytes of the tape as the book behind the last one; false with a fault. */
        boolean readText(World world, int bytes) {
            length = bytes;
            next = 0;
            fault = 0;
            place = 0;
            targetCount = 0;
            advance();
            for (int k = 0; k <= MOST_STEPS; k++) {
                if (!beginsStep()) {
                    return fail(FORM);
                }
                if (k == MOST_STEPS) {
                    return fail(MANY);
                }
                if (!readStep(world, k)) {
                    return false;
                }
                if (token == END) {
                    world.setSize(world.books, k + 1);
                    return targetsAreThere(k + 1);
                }
                if (token != SEMICOLON) {
                    return fail(FORM);
                }
                advance();
            }
            return fail(MANY);
        }

        private boolean targetsAreThere(int size) {
            for (int i = 0; i < targetCount && i < targets.length; i++) {
                if (targets[i] >= size) {
                    fault = BEYOND;
                    place = targetPlaces[i];
                    return false;
                }
            }
            return true;
        }

        private boolean readStep(World world, int k) {
            clearStep(world, k);
            if (isWord("do")) {
                return readDo(world, k);
            }
            if (isWord("ask")) {
                return readAsk(world, k);
            }
            if (isWord("wait")) {
                world.setCell(world.books, k, KIND, WAIT);
                advance();
                return takeNumber(1, MOST_STEP_TICKS) && keep(world, k, FIRST);
            }
            if (isWord("go")) {
                world.setCell(world.books, k, KIND, GO);
                advance();
                return takeNumber(0, MOST_NUMBER) && keepTarget(world, k, FIRST);
            }
            world.setCell(world.books, k, KIND, CALM);
            return takeWord("calm");
        }

        private static void clearStep(World world, int k) {
            world.setCell(world.books, k, FIRST, 0);
            world.setCell(world.books, k, SECOND, 0);
            world.setCell(world.books, k, THIRD, 0);
            world.setCell(world.books, k, HARM_FACT, NONE);
        }

        private boolean readDo(World world, int k) {
            advance();
            if (!takeNumber(0, MOST_SKILLS - 1)) {
                return false;
            }
            keep(world, k, FIRST);
            boolean wrong = isWord("wrong");
            world.setCell(world.books, k, KIND, wrong ? DO_WRONG : DO_RIGHT);
            if (!takeWord(wrong ? "wrong" : "right") || !takeNumber(0, world.facts - 1)) {
                return false;
            }
            keep(world, k, SECOND);
            if (!takeWord("takes") || !takeNumber(1, MOST_STEP_TICKS)) {
                return false;
            }
            keep(world, k, THIRD);
            if (!isWord("if")) {
                return true;
            }
            advance();
            return takeNumber(0, world.facts - 1) && keep(world, k, HARM_FACT) && takeWord("harm");
        }

        private boolean readAsk(World world, int k) {
            world.setCell(world.books, k, KIND, ASK);
            advance();
            return takeNumber(0, world.signs - 1) && keep(world, k, FIRST)
                && takeWord("then") && takeNumber(0, MOST_NUMBER) && keepTarget(world, k, SECOND)
                && takeWord("else") && takeNumber(0, MOST_NUMBER) && keepTarget(world, k, THIRD);
        }
    }

    /** The tick from which on each person is free. */
    private static final class Hands {
        private static final int NOBODY = -1;
        private static final int ALL_BUSY = -2;

        private final int[] freeFrom = new int[MOST_PEOPLE];

        void rest() {
            Arrays.fill(freeFrom, 0);
        }

        /** The free one of the least number with a skill; NOBODY if none could ever, ALL_BUSY if none can now. */
        int pick(World world, int skill, int away, int tick) {
            int found = NOBODY;
            for (int p = 0; p < world.people && p < freeFrom.length && p < world.skills.length; p++) {
                if ((world.skills[p] >> skill & 1) == 1 && (away >> p & 1) == 0) {
                    if (freeFrom[p] <= tick) {
                        return p;
                    }
                    found = ALL_BUSY;
                }
            }
            return found;
        }

        void take(int person, int until) {
            if (person >= 0 && person < freeFrom.length) {
                freeFrom[person] = until;
            }
        }
    }

    /** One play of a book, alone or as one of two nights. */
    private static final class Walk {
        private static final int COMING = 0;
        private static final int WAITING = 1;
        private static final int DOING = 2;

        private static final int WORDS_A_STEP = 4;
        // A step is come to at most once with each state of the facts, and once more for a round.
        private static final int MOST_MOVES = MOST_STEPS * 256 + 2;

        private final long[] seen = new long[MOST_STEPS * WORDS_A_STEP];
        private final int[] path;
        private int book = 0;
        private int wrong = 0;
        private int lies = 0;
        private int away = 0;
        private int at = 0;
        private int phase = COMING;
        private int clock = 0;
        private int waited = 0;
        private int comings = 0;
        private int end = NONE;

        Walk(boolean keepsPath) {
            path = new int[keepsPath ? MOST_PATH : 0];
        }

        void start(World world, int bookNumber, int wrongBits, int liesBits, int awayBits) {
            Arrays.fill(seen, 0L);
            book = bookNumber;
            wrong = wrongBits & world.allFacts();
            lies = liesBits;
            away = awayBits;
            at = 0;
            phase = COMING;
            clock = 0;
            waited = 0;
            comings = 0;
            end = NONE;
        }

        /** Goes on until it ends, or is in the midst of a step or waits beyond a tick. */
        void goOn(World world, Hands hands, int tick) {
            for (int i = 0; i <= MOST_MOVES && end == NONE && clock <= tick; i++) {
                if (phase == DOING) {
                    finish(world);
                }
                if (phase == COMING && end == NONE) {
                    come(world);
                }
                if (end == NONE && world.isDo(book, at)) {
                    beginDo(world, hands);
                } else if (end == NONE) {
                    beginOther(world);
                }
            }
        }

        private void come(World world) {
            if (at >= world.sizeOf(book)) {
                end = OVER;
                return;
            }
            if (comings >= 0 && comings < path.length) {
                path[comings] = at;
            }
            comings++;
            int index = at * WORDS_A_STEP + (wrong >> 6 & 3);
            if (index < 0 || index >= seen.length) {
                return;
            }
            long bit = 1L << (wrong & 63);
            if ((seen[index] & bit) != 0) {
                end = ROUND;
            }
            seen[index] |= bit;
        }

        private void beginOther(World world) {
            int kind = world.cell(book, at, KIND);
            if (kind == CALM) {
                end = (wrong & world.goal) == 0 ? IN_CALM : EARLY;
                return;
            }
            clock += kind == ASK ? 1 : kind == WAIT ? world.cell(book, at, FIRST) : 0;
            phase = DOING;
        }

        private void beginDo(World world, Hands hands) {
            int person = hands.pick(world, world.cell(book, at, FIRST), away, clock);
            int harmFact = world.cell(book, at, HARM_FACT);
            if (person == Hands.NOBODY) {
                end = STUCK;
            } else if (person == Hands.ALL_BUSY) {
                waited++;
                clock++;
                phase = WAITING;
            } else if (harmFact != NONE && (wrong >> harmFact & 1) == 0) {
                end = HARM;
            } else {
                clock += world.cell(book, at, THIRD);
                hands.take(person, clock);
                phase = DOING;
            }
        }

        /** The step's last tick is over: the facts change, and it is known where it leads. */
        private void finish(World world) {
            int kind = world.cell(book, at, KIND);
            int first = world.cell(book, at, FIRST);
            int next = at + 1;
            if (kind == GO) {
                next = first;
            } else if (kind == ASK) {
                boolean tellsWrong = ((wrong >> world.factOf(first) ^ lies >> first) & 1) == 1;
                next = world.cell(book, at, tellsWrong ? SECOND : THIRD);
            } else if (kind == DO_RIGHT) {
                wrong &= ~(1 << world.cell(book, at, SECOND));
            } else if (kind == DO_WRONG) {
                wrong |= 1 << world.cell(book, at, SECOND);
            }
            phase = COMING;
            if (clock > MOST_TICKS) {
                end = LONG;
            } else {
                at = next;
            }
        }

        int about(int what) {
            switch (what) {
                case 0: return clock;
                case 1: return comings;
                case 2: return wrong;
                case 3: return at;
                default: return NONE;
            }
        }

        int pathAt(int i) {
            return i >= 0 && i < comings && i < path.length ? path[i] : NONE;
        }
    }

    /** The choices of all plays, in their order: facts + 256 * signs + 65,536 * people each. */
    private static final class Choices {
        private static final int MOST_CHOSEN = MOST_FACTS + MOST_SIGNS + MOST_PEOPLE;

        private final int[] factSets = new int[1 << MOST_FACTS];
        private final int[] signSets = new int[1 << MOST_SIGNS];
        private final int[] peopleSets = new int[1 << MOST_PEOPLE];
        private int factCount = 0;
        private int signCount = 0;
        private int peopleCount = 0;

        private static int listSets(int[] sets, int allowed, int most) {
            int count = 0;
            for (int set = 0; set < sets.length; set++) {
                if ((set & ~allowed) == 0 && Integer.bitCount(set) <= most && count < sets.length) {
                    sets[count] = set;
                    count++;
                }
            }
            return count;
        }

        /** How many plays there are with up to so many facts wrong, signs lying and people away. */
        int prepare(World world, int facts, int wrongMost, int liesMost, int awayMost) {
            factCount = listSets(factSets, facts & world.allFacts(), wrongMost);
            signCount = listSets(signSets, world.allSigns(), liesMost);
            peopleCount = listSets(peopleSets, world.allPeople(), awayMost);
            return factCount * signCount * peopleCount;
        }

        void writeTo(int[] rows) {
            int count = 0;
            for (int chosen = 0; chosen <= MOST_CHOSEN; chosen++) {
                for (int p = 0; p < peopleCount && p < peopleSets.length; p++) {
                    for (int s = 0; s < signCount && s < signSets.length; s++) {
                        int left = chosen - Integer.bitCount(peopleSets[p]) - Integer.bitCount(signSets[s]);
                        int base = 65536 * peopleSets[p] + 256 * signSets[s];
                        count = writeFacts(rows, count, base, left);
                    }
                }
            }
        }

        private int writeFacts(int[] rows, int from, int base, int chosen) {
            int count = from;
            for (int f = 0; f < factCount && f < factSets.length; f++) {
                if (Integer.bitCount(factSets[f]) == chosen && count >= 0 && count < rows.length) {
                    rows[count] = base + factSets[f];
                    count++;
                }
            }
            return count;
        }
    }

    /** What the latest all() found, with the choices that it had. */
    private static final class Tally {
        private final int[] rows = new int[MOST_PLAYS];
        private final int[] ends = new int[ENDS];
        private boolean told = false;
        private int book = 0;
        private int plays = 0;
        private int bad = 0;
        private int leastTicks = NONE;
        private int mostTicks = NONE;
        private int longest = NONE;
        private int badRow = 0;
        private int badEnd = NONE;

        void start(int bookNumber, int playCount) {
            Arrays.fill(ends, 0);
            told = true;
            book = bookNumber;
            plays = playCount;
            bad = 0;
            leastTicks = NONE;
            mostTicks = NONE;
            longest = NONE;
            badRow = 0;
            badEnd = NONE;
        }

        int rowAt(int i) {
            return i >= 0 && i < rows.length ? rows[i] : 0;
        }

        void add(int number, int end, int ticks) {
            if (end >= 0 && end < ends.length) {
                ends[end]++;
            }
            if (end == IN_CALM) {
                addCalm(number, ticks);
                return;
            }
            if (bad == 0) {
                badRow = rowAt(number);
                badEnd = end;
            }
            bad++;
        }

        private void addCalm(int number, int ticks) {
            if (leastTicks == NONE || ticks < leastTicks) {
                leastTicks = ticks;
            }
            if (ticks > mostTicks) {
                mostTicks = ticks;
                longest = number;
            }
        }

        int endedBy(int end) {
            return told && end >= 0 && end < ends.length ? ends[end] : NONE;
        }

        int about(int what) {
            if (!told) {
                return NONE;
            }
            switch (what) {
                case 0: return plays;
                case 1: return leastTicks;
                case 2: return mostTicks;
                case 3: return bad == 0 ? NONE : badRow & 255;
                case 4: return bad == 0 ? NONE : badRow >> 8 & 255;
                case 5: return bad == 0 ? NONE : badRow >> 16 & 255;
                case 6: return badEnd;
                case 7: return longest;
                default: return NONE;
            }
        }
    }

    /** How many mends cured, and the first of them. */
    private static final class Cures {
        private static final int FIRST_TARGET = 0;
        private static final int SECOND_TARGET = 1;
        private static final int GO_TARGET = 2;
        private static final int LEARNT = 3;

        private int count = 0;
        private int kind = NONE;
        private int which = NONE;
        private int change = NONE;

        void forget() {
            count = 0;
            kind = NONE;
            which = NONE;
            change = NONE;
        }

        void add(int mendKind, int stepOrPerson, int targetOrSkill) {
            if (count == 0) {
                kind = mendKind;
                which = stepOrPerson;
                change = targetOrSkill;
            }
            count++;
        }

        int about(int what) {
            return what == 0 ? kind : what == 1 ? which : what == 2 ? change : NONE;
        }
    }

    /** The log, and how it lies beside a play. */
    private static final class Diary {
        private final int[] entries = new int[MOST_LOG];
        private final int[] best = new int[MOST_LOG + 1];
        private int size = 0;
        private int left = NONE;
        private int added = NONE;

        boolean isFull() {
            return size >= entries.length;
        }

        void write(int entry) {
            if (size >= 0 && size < entries.length) {
                entries[size] = entry;
                size++;
            }
        }

        /** The length of the longest row of steps that is in both in order. */
        int layBeside(Walk walk) {
            int steps = Math.min(walk.comings, MOST_LAID);
            Arrays.fill(best, 0);
            for (int i = 0; i < steps; i++) {
                extend(walk.pathAt(i));
            }
            int both = size >= 0 && size < best.length ? best[size] : 0;
            left = steps - both;
            added = size - both;
            return both;
        }

        /** best[j]: the longest row within the play so far and the log's first j; a step of the play more. */
        private void extend(int entry) {
            int corner = 0;
            for (int j = 0; j < size && j < entries.length && j + 1 < best.length; j++) {
                int above = best[j + 1];
                best[j + 1] = entries[j] == entry ? corner + 1 : Math.max(above, best[j]);
                corner = above;
            }
        }
    }

    private final World world;
    private final Reader reader;
    private final Hands hands;
    private final Walk shown;
    private final Walk tried;
    private final Walk firstNight;
    private final Walk secondNight;
    private final Choices choices;
    private final Tally tally;
    private final Cures cures;
    private final Diary diary;
    private final int[] differRows;
    private int trouble;

    public NightBook() {
        world = new World();
        reader = new Reader();
        hands = new Hands();
        shown = new Walk(true);
        tried = new Walk(false);
        firstNight = new Walk(false);
        secondNight = new Walk(false);
        choices = new Choices();
        tally = new Tally();
        cures = new Cures();
        diary = new Diary();
        differRows = new int[MOST_PLAYS];
        trouble = NO_TROUBLE;
    }

    private int refuse(int number) {
        trouble = number;
        return NONE;
    }

    private int accept(int answer) {
        trouble = NO_TROUBLE;
        return answer;
    }

    private static boolean areBits(int bits) {
        return bits >= 0 && bits <= ALL_BITS;
    }

    public int fact() {
        if (world.facts >= MOST_FACTS) {
            return refuse(NO_ROOM);
        }
        world.facts++;
        return accept(world.facts - 1);
    }

    public int sign(int fact) {
        if (fact < 0 || fact >= world.facts) {
            return refuse(NONE_SUCH);
        }
        int number = world.signs;
        if (number < 0 || number >= world.factOfSign.length) {
            return refuse(NO_ROOM);
        }
        world.factOfSign[number] = fact;
        world.signs++;
        return accept(number);
    }

    public int person(int skills) {
        if (!areBits(skills)) {
            return refuse(BAD_NUMBER);
        }
        int number = world.people;
        if (number >= MOST_PEOPLE) {
            return refuse(NO_ROOM);
        }
        world.setSkills(number, skills);
        world.people++;
        return accept(number);
    }

    public boolean goal(int facts) {
        if (!areBits(facts)) {
            trouble = BAD_NUMBER;
            return false;
        }
        world.goal = facts;
        trouble = NO_TROUBLE;
        return true;
    }

    public int feed(int a, int b, int c, int d, int e) {
        if (!reader.hasRoomFor(20)) {
            return NONE;
        }
        reader.put(a);
        reader.put(b);
        reader.put(c);
        reader.put(d);
        reader.put(e);
        return reader.held;
    }

    public int book(int n) {
        if (n < 0 || n > reader.held) {
            return refuse(BAD_NUMBER);
        }
        boolean whole = reader.readText(world, n);
        reader.held = 0;
        if (!whole) {
            return refuse(FAULTY);
        }
        if (world.books >= MOST_BOOKS) {
            return refuse(NO_ROOM);
        }
        world.books++;
        return accept(world.books - 1);
    }

    public int fault() {
        return reader.fault;
    }

    public int where() {
        return trouble == FAULTY ? reader.place : NONE;
    }

    public int steps(int book) {
        return world.hasBook(book) ? world.sizeOf(book) : NONE;
    }

    private boolean hasStep(int book, int k) {
        return world.hasBook(book) && k >= 0 && k < world.sizeOf(book);
    }

    public int step(int book, int k, int what) {
        return hasStep(book, k) && what >= 0 && what < CELLS ? world.cell(book, k, what) : NONE;
    }

    public int play(int book, int wrong, int lies, int away) {
        if (!world.hasBook(book)) {
            return refuse(NONE_SUCH);
        }
        if (!areBits(wrong) || !areBits(lies) || !areBits(away)) {
            return refuse(BAD_NUMBER);
        }
        shown.start(world, book, wrong, lies, away);
        hands.rest();
        shown.goOn(world, hands, LAST_TICK);
        return accept(shown.end);
    }

    private boolean nothingPlayed() {
        return shown.end == NONE;
    }

    public int played(int what) {
        if (nothingPlayed()) {
            return refuse(NOT_PLAYED);
        }
        // Behind a play a what that there isn't is no refusal: the document names no number for it.
        return accept(shown.about(what));
    }

    public int path(int i) {
        return shown.pathAt(i);
    }

    private static boolean areMosts(int wrongMost, int liesMost, int awayMost) {
        return wrongMost >= 0 && wrongMost <= MOST_OF_EACH
            && liesMost >= 0 && liesMost <= MOST_OF_EACH
            && awayMost >= 0 && awayMost <= MOST_OF_EACH;
    }

    private int tryRow(int book, int row) {
        tried.start(world, book, row & 255, row >> 8 & 255, row >> 16 & 255);
        hands.rest();
        tried.goOn(world, hands, LAST_TICK);
        return tried.end;
    }

    public int all(int book, int facts, int wrongMost, int liesMost, int awayMost) {
        if (!world.hasBook(book)) {
            return refuse(NONE_SUCH);
        }
        if (!areBits(facts) || !areMosts(wrongMost, liesMost, awayMost)) {
            return refuse(BAD_NUMBER);
        }
        int plays = choices.prepare(world, facts, wrongMost, liesMost, awayMost);
        if (plays > MOST_PLAYS) {
            return refuse(NO_ROOM);
        }
        choices.writeTo(tally.rows);
        tally.start(book, plays);
        for (int i = 0; i < plays; i++) {
            int end = tryRow(book, tally.rowAt(i));
            tally.add(i, end, tried.clock);
        }
        return accept(tally.bad);
    }

    public int ended(int end) {
        return tally.endedBy(end);
    }

    public int allOf(int what) {
        return tally.about(what);
    }

    public int idle(int book) {
        return world.hasBook(book) ? world.sizeOf(book) - Integer.bitCount(world.reached(book)) : NONE;
    }

    public int look(int book, int k) {
        if (!hasStep(book, k)) {
            return NONE;
        }
        return (world.reached(book) >> k & 1) + (world.isDoable(book, k) ? 2 : 0);
    }

    private int countMends(int book) {
        int size = world.sizeOf(book);
        int targets = 0;
        for (int k = 0; k < size; k++) {
            int kind = world.cell(book, k, KIND);
            targets += kind == ASK ? 2 : kind == GO ? 1 : 0;
        }
        int mends = targets * (size - 1);
        for (int p = 0; p < world.people; p++) {
            mends += MOST_SKILLS - Integer.bitCount(world.skillsOf(p));
        }
        return mends;
    }

    private boolean allCalm() {
        for (int i = 0; i < tally.plays; i++) {
            if (tryRow(tally.book, tally.rowAt(i)) != IN_CALM) {
                return false;
            }
        }
        return true;
    }

    private void tryTargets(int mendKind, int k, int what) {
        int old = world.cell(tally.book, k, what);
        for (int target = 0; target < world.sizeOf(tally.book); target++) {
            world.setCell(tally.book, k, what, target);
            if (target != old && allCalm()) {
                cures.add(mendKind, k, target);
            }
        }
        world.setCell(tally.book, k, what, old);
    }

    private void trySkills(int person) {
        int old = world.skillsOf(person);
        for (int skill = 0; skill < MOST_SKILLS; skill++) {
            int learnt = old | 1 << skill;
            world.setSkills(person, learnt);
            if (learnt != old && allCalm()) {
                cures.add(Cures.LEARNT, person, skill);
            }
        }
        world.setSkills(person, old);
    }

    public int mends() {
        if (!tally.told) {
            return refuse(NOT_PLAYED);
        }
        if (tally.bad > 0 && countMends(tally.book) * tally.plays > MOST_MEND_PLAYS) {
            return refuse(NO_ROOM);
        }
        cures.forget();
        if (tally.bad == 0) {
            return accept(0);
        }
        for (int k = 0; k < world.sizeOf(tally.book); k++) {
            int kind = world.cell(tally.book, k, KIND);
            if (kind == ASK) {
                tryTargets(Cures.FIRST_TARGET, k, SECOND);
                tryTargets(Cures.SECOND_TARGET, k, THIRD);
            } else if (kind == GO) {
                tryTargets(Cures.GO_TARGET, k, FIRST);
            }
        }
        for (int p = 0; p < world.people; p++) {
            trySkills(p);
        }
        return accept(cures.count);
    }

    public int mend(int what) {
        return cures.about(what);
    }

    public int nights(int first, int wrong, int lies, int second, int otherWrong, int otherLies, int away) {
        if (!world.hasBook(first) || !world.hasBook(second)) {
            return refuse(NONE_SUCH);
        }
        if (!areBits(wrong) || !areBits(lies) || !areBits(otherWrong) || !areBits(otherLies) || !areBits(away)) {
            return refuse(BAD_NUMBER);
        }
        firstNight.start(world, first, wrong, lies, away);
        secondNight.start(world, second, otherWrong, otherLies, away);
        hands.rest();
        for (int tick = 0; tick <= LAST_TICK && (firstNight.end == NONE || secondNight.end == NONE); tick++) {
            firstNight.goOn(world, hands, tick);
            secondNight.goOn(world, hands, tick);
        }
        return accept(Math.max(firstNight.clock, secondNight.clock));
    }

    public int night(boolean second, int what) {
        Walk night = second ? secondNight : firstNight;
        if (night.end == NONE) {
            return NONE;
        }
        return what == 0 ? night.end : what == 1 ? night.clock : what == 2 ? night.waited : NONE;
    }

    public int log(int step) {
        if (step < 0 || step >= MOST_STEPS) {
            return refuse(BAD_NUMBER);
        }
        if (diary.isFull()) {
            return refuse(NO_ROOM);
        }
        diary.write(step);
        return accept(diary.size);
    }

    public int clear() {
        int size = diary.size;
        diary.size = 0;
        return size;
    }

    public int laid() {
        if (nothingPlayed()) {
            return refuse(NOT_PLAYED);
        }
        return accept(diary.layBeside(shown));
    }

    public int apart(boolean added) {
        return added ? diary.added : diary.left;
    }

    public int differ(int book, int other, int facts, int wrongMost, int liesMost, int awayMost) {
        if (!world.hasBook(book) || !world.hasBook(other)) {
            return refuse(NONE_SUCH);
        }
        if (!areBits(facts) || !areMosts(wrongMost, liesMost, awayMost)) {
            return refuse(BAD_NUMBER);
        }
        int plays = choices.prepare(world, facts, wrongMost, liesMost, awayMost);
        if (plays > MOST_PLAYS) {
            return refuse(NO_ROOM);
        }
        choices.writeTo(differRows);
        int unlike = 0;
        for (int i = 0; i < plays && i < differRows.length; i++) {
            if (isUnlike(book, other, differRows[i])) {
                unlike++;
            }
        }
        return accept(unlike);
    }

    private boolean isUnlike(int book, int other, int row) {
        int end = tryRow(book, row);
        int ticks = tried.clock;
        return tryRow(other, row) != end || (end == IN_CALM && tried.clock != ticks);
    }

    public int count(int what) {
        switch (what) {
            case 0: return world.facts;
            case 1: return world.signs;
            case 2: return world.people;
            case 3: return world.books;
            case 4: return diary.size;
            case 5: return reader.held;
            default: return NONE;
        }
    }

    public int trouble() {
        return trouble;
    }
}
