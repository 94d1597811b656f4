import java.util.Arrays;

/** A junction that a policeman conducts, as ../shared/DOC.md promises it. */
public final class DutyBeats {
    public static final int NONE = -1;

    private static final int MOST_BYTES = 400;
    private static final int MOST_ROADS = 6;
    private static final int MOST_BARS = 12;
    private static final int MOST_RULES = 6;
    private static final int MOST_PARTS = 12;
    private static final int MOST_WAIT = 999;
    private static final int MOST_UNDONE = 20;
    private static final int MOST_NOTES = 10;
    private static final int MOST_IMAGES = 4;
    private static final int LAST_BEAT_BY_HAND = 999;
    private static final int LAST_NOTED_BEAT = 60;
    private static final int LONG_SEARCH = 200;
    private static final int RING_BEATS = 60;
    private static final int CROWD = 20;

    private static final int[] RESTS = {1, 3, 5, 7, 9};

    private final Tape tape = new Tape();
    private final Junction now = new Junction();
    private final Junction told = new Junction();
    private final Junction trial = new Junction();
    private final JunctionText junctionText = new JunctionText(tape, trial);
    private final RuleText ruleText = new RuleText(tape);
    private final Rule[] rules = new Rule[MOST_RULES];
    private final History history = new History();
    private final Notes notes = new Notes();
    private final Image[] images = new Image[MOST_IMAGES];
    private final RowSearch rowSearch = new RowSearch();
    private final int[] shared = new int[MOST_ROADS];
    private final int[] onePays = new int[RESTS.length * RESTS.length];
    private final int[] otherPays = new int[RESTS.length * RESTS.length];
    private final int[] begins = new int[(RING_BEATS + 1) * MOST_ROADS];
    private final int[] watched = new int[(MOST_RULES + 1) * MOST_ROADS];
    private int ruleCount = 0;
    private int inForce = NONE;
    private int drawn = 0;

    public DutyBeats() {
        for (int k = 0; k < MOST_IMAGES; k++) {
            images[k] = new Image();
        }
    }

    // ---- the tape, the junction and the rules

    public int feed(int a, int b, int c, int d, int e) {
        if (tape.length + 20 > MOST_BYTES) {
            return NONE;
        }
        tape.append(a);
        tape.append(b);
        tape.append(c);
        tape.append(d);
        tape.append(e);
        return tape.length;
    }

    public int end(int n) {
        if (n < 0 || n > tape.length) {
            return NONE;
        }
        tape.length = n;
        return n;
    }

    public int junction() {
        trial.forget();
        int fault = junctionText.readClauses();
        tape.length = 0;
        if (fault != 0) {
            return -2 - fault;
        }
        told.copyFrom(trial);
        now.copyFrom(trial);
        notes.size = 0;
        history.size = 0;
        return now.roads;
    }

    public int rule() {
        if (ruleCount >= MOST_RULES) {
            return NONE;
        }
        ruleText.startOver();
        int fault = ruleText.readClauses();
        tape.length = 0;
        if (fault != 0) {
            return -2 - fault;
        }
        rules[ruleCount] = ruleText.made();
        ruleCount++;
        return ruleCount - 1;
    }

    public int force(int rule) {
        if (!within(rule, NONE, ruleCount - 1)) {
            return -2;
        }
        int before = inForce;
        inForce = rule;
        return before;
    }

    // ---- how it is

    public int road(int road, int what) {
        if (!now.hasRoad(road)) {
            return NONE;
        }
        switch (what) {
            case 0: return now.wait[road];
            case 1: return now.every[road];
            case 2: return now.part[road];
            case 3: return now.clash[road];
            case 4: return now.went[road];
            case 5: return now.waited[road];
            case 6: return now.sinceLetIn(road);
            default: return NONE;
        }
    }

    public int scored(int beat) {
        return now.hasBeat(beat) ? now.score[beat] : NONE;
    }

    public int count(int what) {
        switch (what) {
            case 0: return now.bar;
            case 1: return now.room;
            case 2: return now.roads;
            case 3: return ruleCount;
            case 4: return inForce;
            case 5: return now.beat;
            case 6: return now.beatOfBar();
            case 7: return now.sumOf(now.wait);
            case 8: return now.sumOf(now.went);
            case 9: return now.sumOf(now.waited);
            case 10: return notes.size;
            case 11: return history.size;
            case 12: return drawn;
            case 13: return tape.length;
            default: return NONE;
        }
    }

    public int heard() {
        return now.heard;
    }

    // ---- acts

    public int beat() {
        if (!now.isTold() || now.beat >= LAST_BEAT_BY_HAND) {
            return NONE;
        }
        history.keep(now);
        return now.oneBeat(ruleOf(inForce));
    }

    public int come(int road, int many) {
        if (!now.hasRoad(road) || !within(many, 1, 20)) {
            return NONE;
        }
        history.keep(now);
        now.addWaiting(road, many);
        return now.wait[road];
    }

    public int wave(int road) {
        if (!now.hasRoad(road) || now.wait[road] <= 0) {
            return NONE;
        }
        history.keep(now);
        return now.leave(road);
    }

    public int score(int beat, int road) {
        if (!now.hasBeat(beat) || !now.hasRoad(road)) {
            return NONE;
        }
        history.keep(now);
        now.score[beat] ^= 1 << road;
        return now.score[beat] >> road & 1;
    }

    public int tune(int road, int part) {
        if (!now.hasRoad(road) || !within(part, 0, MOST_PARTS - 1) || now.part[road] == part) {
            return NONE;
        }
        history.keep(now);
        int before = now.part[road];
        now.part[road] = part;
        return before;
    }

    public int undo() {
        if (history.size == 0) {
            return NONE;
        }
        history.takeBack(now);
        return history.size;
    }

    // ---- what is asked

    public int ahead(int road, int n, int what) {
        boolean asked = within(n, 0, 100) && within(what, 0, 2) && (what == 2 || now.hasRoad(road));
        if (!now.isTold() || !asked) {
            return -10000;
        }
        trial.copyFrom(now);
        trial.goOn(n, ruleOf(inForce));
        if (what == 2) {
            return trial.heard;
        }
        return what == 0 ? trial.wait[road] : trial.went[road];
    }

    public int clear(int road) {
        if (!now.hasRoad(road)) {
            return NONE;
        }
        trial.copyFrom(now);
        for (int i = 0; i < LONG_SEARCH; i++) {
            trial.oneBeat(ruleOf(inForce));
            if (trial.wait[road] == 0) {
                return now.beat + i;
            }
        }
        return -2;
    }

    public int chord(int what) {
        if (!now.isTold() || !within(what, 0, 1)) {
            return NONE;
        }
        int best = 0;
        int most = 0;
        for (int set = 1; set < 1 << now.roads; set++) {
            int sound = now.soundOf(set);
            boolean fuller = sound > most || sound == most && Integer.bitCount(set) < Integer.bitCount(best);
            if (fuller && now.isPeaceful(set)) {
                best = set;
                most = sound;
            }
        }
        return what == 0 ? most : best;
    }

    public int beats(int what) {
        if (!now.isTold() || !within(what, NONE, MOST_ROADS - 1)) {
            return -3;
        }
        int fewest = 0;
        while (!share(0, fewest) && fewest < MOST_ROADS) {
            fewest++;
        }
        if (what == NONE) {
            return fewest;
        }
        return now.hasRoad(what) ? shared[what] : -2;
    }

    /** Gives this ROAD and those behind it the least beats below many, if there are such. */
    private boolean share(int road, int many) {
        if (!now.hasRoad(road)) {
            return true;
        }
        for (int beat = 0; beat < many; beat++) {
            shared[road] = beat;
            if (isFree(road) && share(road + 1, many)) {
                return true;
            }
        }
        return false;
    }

    private boolean isFree(int road) {
        for (int other = 0; other < road; other++) {
            if (shared[other] == shared[road] && (now.clash[road] >> other & 1) == 1) {
                return false;
            }
        }
        return true;
    }

    public int bestScore(int n, int what) {
        if (!now.isTold() || !within(n, 1, 30) || !within(what, 0, 2)) {
            return NONE;
        }
        int bestBeat = -2;
        int bestRoad = -2;
        int least = waitedWith(0, 0, n);
        for (int beat = 0; beat < now.bar; beat++) {
            for (int road = 0; road < now.roads; road++) {
                int waited = waitedWith(beat, 1 << road, n);
                if (waited < least) {
                    least = waited;
                    bestBeat = beat;
                    bestRoad = road;
                }
            }
        }
        if (what == 0) {
            return least;
        }
        return what == 1 ? bestBeat : bestRoad;
    }

    private int waitedWith(int beat, int changed, int n) {
        trial.copyFrom(now);
        if (trial.hasBeat(beat)) {
            trial.score[beat] ^= changed;
        }
        trial.goOn(n, ruleOf(inForce));
        return trial.sumOf(trial.waited);
    }

    public int row(int n, int what) {
        if (!now.isTold() || !within(n, 1, RowSearch.MOST_BEATS) || !within(what, 0, 4)) {
            return -10000;
        }
        if (what - 2 >= n) {
            return -2;
        }
        rowSearch.search(now, trial, n);
        if (what >= 2) {
            return rowSearch.best[what - 2];
        }
        return what == 0 ? rowSearch.leastWaited : rowSearch.mostHeard;
    }

    public int leastRoom(int n) {
        if (!now.isTold() || !within(n, 1, 60)) {
            return NONE;
        }
        for (int room = 1; room <= 9; room++) {
            if (neverCrowded(room, n)) {
                return room;
            }
        }
        return -2;
    }

    private boolean neverCrowded(int room, int n) {
        trial.copyFrom(now);
        trial.room = room;
        for (int i = 0; i < n; i++) {
            trial.oneBeat(ruleOf(inForce));
            if (trial.roads > 0 && trial.wait[trial.fullest()] > CROWD) {
                return false;
            }
        }
        return true;
    }

    public int shut(int n, int what) {
        if (!now.isTold() || !within(n, 1, 60) || !within(what, 0, 1)) {
            return -2;
        }
        int best = NONE;
        int least = waitedShut(NONE, n);
        for (int road = 0; road < now.roads; road++) {
            int waited = waitedShut(road, n);
            if (waited < least) {
                least = waited;
                best = road;
            }
        }
        return what == 0 ? best : least;
    }

    private int waitedShut(int road, int n) {
        trial.copyFrom(now);
        trial.shut = road;
        if (trial.hasRoad(road)) {
            trial.wait[road] = 0;
        }
        trial.goOn(n, ruleOf(inForce));
        int all = trial.sumOf(trial.waited);
        return trial.hasRoad(road) ? all - trial.waited[road] : all;
    }

    public int longest(int n, int what) {
        if (!now.isTold() || !within(n, 1, 100) || !within(what, 0, 2)) {
            return NONE;
        }
        if (now.roads == 0) {
            return what == 0 ? 0 : -2;
        }
        int most = NONE;
        int beat = NONE;
        int road = NONE;
        trial.copyFrom(now);
        for (int i = 0; i < n; i++) {
            trial.oneBeat(ruleOf(inForce));
            int fullest = trial.fullest();
            if (trial.wait[fullest] > most) {
                most = trial.wait[fullest];
                beat = now.beat + i;
                road = fullest;
            }
        }
        if (what == 0) {
            return most;
        }
        return what == 1 ? beat : road;
    }

    public int cadenza(int road) {
        if (!now.hasRoad(road)) {
            return NONE;
        }
        trial.copyFrom(now);
        for (int i = 0; i < LONG_SEARCH; i++) {
            trial.oneBeat(ruleOf(inForce));
            if (trial.gone[road] > 0 && trial.sumOf(trial.gone) == trial.gone[road]) {
                return now.beat + i;
            }
        }
        return -2;
    }

    public int rests(int one, int other, int n, int what) {
        boolean two = now.hasRoad(one) && now.hasRoad(other) && one != other;
        if (!two || !within(n, 1, 20) || !within(what, 0, 2)) {
            return NONE;
        }
        tryRests(one, other, n);
        int many = 0;
        int first = NONE;
        for (int i = 0; i < onePays.length; i++) {
            if (isRest(i)) {
                many++;
                first = first == NONE ? i : first;
            }
        }
        if (what == 0) {
            return many;
        }
        if (first == NONE) {
            return -2;
        }
        return what == 1 ? RESTS[first / RESTS.length] : RESTS[first % RESTS.length];
    }

    private void tryRests(int one, int other, int n) {
        for (int i = 0; i < onePays.length; i++) {
            trial.copyFrom(now);
            trial.every[one] = RESTS[i / RESTS.length];
            trial.every[other] = RESTS[i % RESTS.length];
            trial.goOn(n, ruleOf(inForce));
            onePays[i] = trial.went[one] - now.went[one] - trial.wait[one] / 3;
            otherPays[i] = trial.went[other] - now.went[other] - trial.wait[other] / 3;
        }
    }

    private boolean isRest(int two) {
        int first = two / RESTS.length;
        int second = two % RESTS.length;
        for (int i = 0; i < RESTS.length; i++) {
            if (onePays[i * RESTS.length + second] > onePays[two]
                    || otherPays[first * RESTS.length + i] > otherPays[two]) {
                return false;
            }
        }
        return true;
    }

    public int ring(int what) {
        if (!now.isTold() || !within(what, 0, 1)) {
            return NONE;
        }
        trial.copyFrom(now);
        for (int i = 0; i <= RING_BEATS; i++) {
            System.arraycopy(trial.wait, 0, begins, i * MOST_ROADS, MOST_ROADS);
            trial.oneBeat(ruleOf(inForce));
        }
        for (int i = 0; i < RING_BEATS; i++) {
            int later = ringFrom(i);
            if (later != NONE) {
                return what == 0 ? now.beat + i : later;
            }
        }
        return -2;
    }

    private int ringFrom(int begin) {
        for (int later = 1; begin + later <= RING_BEATS; later++) {
            if (now.bar > 0 && later % now.bar == 0 && sameBegins(begin, begin + later)) {
                return later;
            }
        }
        return NONE;
    }

    private boolean sameBegins(int one, int other) {
        for (int road = 0; road < now.roads; road++) {
            if (begins[one * MOST_ROADS + road] != begins[other * MOST_ROADS + road]) {
                return false;
            }
        }
        return true;
    }

    public int pence(int much, int road) {
        if (!now.hasRoad(road) || !within(much, 0, 9999)) {
            return NONE;
        }
        long all = now.sumOf(now.waited);
        if (all <= 0) {
            return 0;
        }
        long lost = (long) much * now.waited[road] % all;
        long left = much;
        int ahead = 0;
        for (int other = 0; other < now.roads; other++) {
            long due = (long) much * now.waited[other];
            left -= due / all;
            if (due % all > lost || due % all == lost && other < road) {
                ahead++;
            }
        }
        return (int) ((long) much * now.waited[road] / all) + (ahead < left ? 1 : 0);
    }

    // ---- notes and what they tell of the rules

    public int note(int n, int road, int many) {
        if (n == NONE) {
            notes.size = 0;
            return 0;
        }
        boolean asked = within(n, 0, LAST_NOTED_BEAT) && now.hasRoad(road) && within(many, 0, 9);
        if (!asked || notes.size >= MOST_NOTES) {
            return -2;
        }
        notes.add(n, road, many);
        return notes.size;
    }

    public int ruled(int what) {
        if (!now.isTold() || !within(what, 0, 1)) {
            return -3;
        }
        int so = rulesThatAreSo(NONE);
        if (what == 0) {
            return Integer.bitCount(so);
        }
        return so == 0 ? -2 : Integer.numberOfTrailingZeros(so) - 1;
    }

    public int look(int n, int what) {
        if (!now.isTold() || !within(n, 0, LAST_NOTED_BEAT) || !within(what, 0, 1)) {
            return NONE;
        }
        int so = rulesThatAreSo(n);
        if (so == 0 || now.roads == 0) {
            return -2;
        }
        int best = 0;
        int fewest = mostAlike(0, so);
        for (int road = 1; road < now.roads; road++) {
            int alike = mostAlike(road, so);
            if (alike < fewest) {
                fewest = alike;
                best = road;
            }
        }
        return what == 0 ? best : fewest;
    }

    /** The RULES by which all NOTES are so, as bits: bit 0 is none, bit 1 is RULE 0. */
    private int rulesThatAreSo(int watch) {
        int so = 0;
        for (int rule = NONE; rule < ruleCount; rule++) {
            if (isSoBy(rule, watch)) {
                so |= 1 << (rule + 1);
            }
        }
        return so;
    }

    private boolean isSoBy(int rule, int watch) {
        trial.copyFrom(told);
        for (int n = 0; n <= LAST_NOTED_BEAT; n++) {
            trial.oneBeat(ruleOf(rule));
            if (!notes.agree(n, trial.gone)) {
                return false;
            }
            if (n == watch) {
                System.arraycopy(trial.gone, 0, watched, (rule + 1) * MOST_ROADS, MOST_ROADS);
            }
        }
        return true;
    }

    private int mostAlike(int road, int so) {
        int most = 0;
        for (int one = 0; one <= MOST_RULES; one++) {
            int alike = 0;
            for (int other = 0; other <= MOST_RULES; other++) {
                boolean same = watched[one * MOST_ROADS + road] == watched[other * MOST_ROADS + road];
                alike += same && (so >> other & 1) == 1 ? 1 : 0;
            }
            most = (so >> one & 1) == 1 ? Math.max(most, alike) : most;
        }
        return most;
    }

    // ---- draws and images

    public int seed(int x) {
        if (x < 0) {
            return NONE;
        }
        int before = drawn;
        drawn = x;
        return before;
    }

    public int mornings(int m, int n, int p, int what) {
        boolean asked = within(m, 1, 10) && within(n, 1, 60) && within(p, 0, 100) && within(what, 0, 1);
        if (!now.isTold() || !asked) {
            return -100000;
        }
        int before = drawn;
        int went = 0;
        int heard = 0;
        for (int i = 0; i < m; i++) {
            trial.copyFrom(now);
            for (int beat = 0; beat < n; beat++) {
                drawCarts(p);
                trial.oneBeat(ruleOf(inForce));
            }
            went += trial.sumOf(trial.went) - now.sumOf(now.went);
            heard += trial.heard - now.heard;
        }
        drawn = before;
        return what == 0 ? went : heard;
    }

    private void drawCarts(int p) {
        if (nextDraw() % 100 < p && trial.roads > 0) {
            trial.addWaiting(nextDraw() % trial.roads, 3);
        }
    }

    private int nextDraw() {
        drawn = (int) ((drawn * 1103515245L + 12345L) % 2147483648L);
        return drawn / 65536;
    }

    public int image(int k) {
        if (!within(k, 0, MOST_IMAGES - 1)) {
            return NONE;
        }
        Image image = images[k];
        image.made = true;
        image.now.copyFrom(now);
        image.told.copyFrom(told);
        image.notes.copyFrom(notes);
        image.inForce = inForce;
        image.drawn = drawn;
        return now.beat;
    }

    public int back(int k) {
        if (!within(k, 0, MOST_IMAGES - 1) || !images[k].made) {
            return NONE;
        }
        Image image = images[k];
        now.copyFrom(image.now);
        told.copyFrom(image.told);
        notes.copyFrom(image.notes);
        inForce = image.inForce;
        drawn = image.drawn;
        history.size = 0;
        return now.beat;
    }

    private static boolean within(int number, int least, int most) {
        return number >= least && number <= most;
    }

    /** The RULE of that number; null is the score. */
    private Rule ruleOf(int rule) {
        return rule >= 0 && rule < ruleCount ? rules[rule] : null;
    }

    /** The bytes that were fed, and the signs, words and numbers that they are read as. */
    private static final class Tape {
        static final int END = 0;
        static final int WORD = 1;
        static final int NUMBER = 2;
        static final int SIGN = 3;

        static final int CANNOT_STAND = 0;
        static final int WRONG_NUMBER = 1;
        static final int TOO_DEEP = 2;
        static final int TOO_LARGE = 3;
        static final int MISPLACED = 4;

        /** Added to < or > where = stands right behind it. */
        static final int OR_EQUAL = 256;

        private static final int MOST_DIGITS = 5;

        private final byte[] bytes = new byte[MOST_BYTES];
        private int length = 0;
        private int at = 0;
        private int kind = END;
        private int place = 0;
        private int value = 0;
        private int fault = 0;

        void append(int four) {
            for (int shift = 24; shift >= 0 && length < bytes.length; shift -= 8) {
                bytes[length] = (byte) (four >> shift);
                length++;
            }
        }

        void begin() {
            at = 0;
            fault = 0;
            next();
        }

        void next() {
            while (at < length && bytes[at] == ' ') {
                at++;
            }
            place = at;
            if (at >= length) {
                kind = END;
            } else if (bytes[at] >= 'a' && bytes[at] <= 'z') {
                kind = WORD;
                while (at < length && bytes[at] >= 'a' && bytes[at] <= 'z') {
                    at++;
                }
            } else if (bytes[at] >= '0' && bytes[at] <= '9') {
                kind = NUMBER;
                value = 0;
                while (at < length && bytes[at] >= '0' && bytes[at] <= '9') {
                    value = value * 10 + bytes[at] - '0';
                    at++;
                }
            } else {
                kind = SIGN;
                value = bytes[at];
                at++;
                if ((value == '<' || value == '>') && at < length && bytes[at] == '=') {
                    value += OR_EQUAL;
                    at++;
                }
            }
        }

        /** Which of these words, parted by one blank each, stands here; NONE, if none does. */
        int wordOf(String words) {
            if (kind != WORD) {
                return NONE;
            }
            int which = 0;
            int alike = 0;
            for (int i = 0; i <= words.length(); i++) {
                if (i == words.length() || words.charAt(i) == ' ') {
                    if (alike == at - place) {
                        return which;
                    }
                    which++;
                    alike = 0;
                } else if (alike >= 0) {
                    boolean same = alike < at - place && bytes[place + alike] == words.charAt(i);
                    alike = same ? alike + 1 : -1;
                }
            }
            return NONE;
        }

        boolean isSign(int sign) {
            return kind == SIGN && value == sign;
        }

        void takeSign(int sign) {
            if (isSign(sign)) {
                next();
            } else {
                fail(CANNOT_STAND);
            }
        }

        /** The NUMBER that stands here; 0 behind a FAULT. */
        int takeNumber(int least, int most) {
            if (fault != 0) {
                return 0;
            }
            if (kind != NUMBER) {
                fail(CANNOT_STAND);
                return 0;
            }
            if (hasTooManyDigits() || value < least || value > most) {
                fail(WRONG_NUMBER);
                return 0;
            }
            int taken = value;
            next();
            return taken;
        }

        boolean hasTooManyDigits() {
            return at - place > MOST_DIGITS;
        }

        void fail(int why) {
            if (fault == 0) {
                fault = 1 + 8 * place + why;
            }
        }
    }

    /** CLAUSES that ; parts. */
    private abstract static class Text {
        final Tape tape;

        Text(Tape tape) {
            this.tape = tape;
        }

        /** Reads the TAPE whole: its FAULT; 0 without one. */
        int readClauses() {
            tape.begin();
            for (int clause = 0; clause <= MOST_BYTES; clause++) {
                readClause(clause);
                if (tape.fault != 0 || tape.kind == Tape.END) {
                    break;
                }
                tape.takeSign(';');
                if (tape.fault != 0) {
                    break;
                }
            }
            return tape.fault;
        }

        abstract void readClause(int clause);
    }

    private static final class JunctionText extends Text {
        private static final int MOST_CLAUSES = 40;
        private static final String CLAUSES = "junction road clash score";
        private static final int JUNCTION = 0;
        private static final int ROAD = 1;
        private static final int CLASH = 2;

        private final Junction made;

        JunctionText(Tape tape, Junction made) {
            super(tape);
            this.made = made;
        }

        void readClause(int clause) {
            int which = tape.wordOf(CLAUSES);
            if (which == NONE) {
                tape.fail(Tape.CANNOT_STAND);
                return;
            }
            boolean first = clause == 0;
            boolean oneTooMany = clause >= MOST_CLAUSES || which == ROAD && made.roads >= MOST_ROADS;
            if (oneTooMany || first != (which == JUNCTION)) {
                tape.fail(Tape.MISPLACED);
                return;
            }
            tape.next();
            if (which == JUNCTION) {
                made.bar = tape.takeNumber(1, MOST_BARS);
                made.room = tape.takeNumber(1, 9);
            } else if (which == ROAD) {
                readRoad();
            } else if (which == CLASH) {
                readClash();
            } else {
                readScore();
            }
        }

        private void readRoad() {
            int wait = tape.takeNumber(0, 30);
            int every = tape.takeNumber(1, 12);
            int part = tape.takeNumber(0, MOST_PARTS - 1);
            if (tape.fault == 0) {
                made.addRoad(wait, every, part);
            }
        }

        private void readClash() {
            int one = tape.takeNumber(0, made.roads - 1);
            if (tape.kind == Tape.NUMBER && tape.value == one) {
                tape.fail(Tape.WRONG_NUMBER);
            }
            int other = tape.takeNumber(0, made.roads - 1);
            if (tape.fault == 0) {
                made.clash[one] |= 1 << other;
                made.clash[other] |= 1 << one;
            }
        }

        private void readScore() {
            int beat = tape.takeNumber(0, made.bar - 1);
            int road = tape.takeNumber(0, made.roads - 1);
            if (tape.fault == 0) {
                made.score[beat] |= 1 << road;
            }
        }
    }

    /** Turns a RULE's text into what a Rule works through: each sign behind what it joins. */
    private static final class RuleText extends Text {
        private static final int MOST_CLAUSES = 12;
        private static final int MOST_DEEP = 10;
        private static final int MOST_COUNTED = 60;

        private final int[] steps = new int[MOST_BYTES];
        private int size = 0;
        private int counted = 0;

        RuleText(Tape tape) {
            super(tape);
        }

        void startOver() {
            size = 0;
            counted = 0;
        }

        Rule made() {
            return new Rule(Arrays.copyOf(steps, Math.max(0, size)));
        }

        void readClause(int clause) {
            if (tape.wordOf("let") == NONE) {
                tape.fail(Tape.CANNOT_STAND);
                return;
            }
            if (clause >= MOST_CLAUSES) {
                tape.fail(Tape.MISPLACED);
                return;
            }
            tape.next();
            readSum();
            if (tape.fault != 0 || tape.wordOf("if") == NONE) {
                put(Rule.ANSWER);
                return;
            }
            tape.next();
            readTest(0);
            put(Rule.ANSWER_IF);
        }

        private void readTest(int deep) {
            boolean and = false;
            boolean or = false;
            for (int i = 0; i < MOST_BYTES; i++) {
                readFact(deep);
                if (and) {
                    put(Rule.AND);
                }
                int joins = tape.fault == 0 ? tape.wordOf("and or") : NONE;
                and = joins == 0;
                if (!and) {
                    if (or) {
                        put(Rule.OR);
                    }
                    or = joins == 1;
                }
                if (joins == NONE) {
                    return;
                }
                tape.next();
            }
        }

        private void readFact(int deep) {
            boolean not = tape.wordOf("not") != NONE;
            if (not || tape.isSign('[')) {
                if (deep >= MOST_DEEP) {
                    tape.fail(Tape.TOO_DEEP);
                    return;
                }
                tape.next();
                if (not) {
                    readFact(deep + 1);
                    put(Rule.NOT);
                } else {
                    readTest(deep + 1);
                    tape.takeSign(']');
                }
                return;
            }
            readSum();
            int sign = compareSign();
            if (sign == NONE) {
                tape.fail(Tape.CANNOT_STAND);
            } else if (counted >= MOST_COUNTED) {
                tape.fail(Tape.TOO_LARGE);
            } else if (tape.fault == 0) {
                counted++;
                tape.next();
                readSum();
                put(sign);
            }
        }

        private int compareSign() {
            if (tape.kind != Tape.SIGN) {
                return NONE;
            }
            switch (tape.value) {
                case '<': return Rule.BELOW;
                case '<' + Tape.OR_EQUAL: return Rule.AT_MOST;
                case '=': return Rule.EQUAL;
                case '>' + Tape.OR_EQUAL: return Rule.AT_LEAST;
                case '>': return Rule.ABOVE;
                default: return NONE;
            }
        }

        private void readSum() {
            int adds = NONE;
            int times = NONE;
            for (int i = 0; i < MOST_BYTES && tape.fault == 0; i++) {
                readValue();
                if (times != NONE) {
                    put(times);
                }
                times = joinSign('*', '/', '%');
                if (times == NONE) {
                    if (adds != NONE) {
                        put(adds);
                    }
                    adds = joinSign('+', '-', '-');
                    if (adds == NONE) {
                        return;
                    }
                }
                tape.next();
            }
        }

        private int joinSign(int one, int another, int third) {
            if (tape.fault != 0 || !tape.isSign(one) && !tape.isSign(another) && !tape.isSign(third)) {
                return NONE;
            }
            switch (tape.value) {
                case '+': return Rule.PLUS;
                case '-': return Rule.MINUS;
                case '*': return Rule.TIMES;
                case '/': return Rule.DIVIDED;
                default: return Rule.REST;
            }
        }

        private void readValue() {
            int word = tape.wordOf(Rule.WORDS);
            if (tape.kind != Tape.NUMBER && word == NONE) {
                tape.fail(Tape.CANNOT_STAND);
            } else if (tape.kind == Tape.NUMBER && tape.hasTooManyDigits()) {
                tape.fail(Tape.WRONG_NUMBER);
            } else if (counted >= MOST_COUNTED) {
                tape.fail(Tape.TOO_LARGE);
            } else {
                counted++;
                put(word == NONE ? tape.value : Rule.FIRST_WORD - word);
                tape.next();
            }
        }

        private void put(int step) {
            if (tape.fault == 0 && size < steps.length) {
                steps[size] = step;
                size++;
            }
        }
    }

    /** Steps over a small stack: numbers are themselves, below them words, below these signs. */
    private static final class Rule {
        static final String WORDS = "road wait every part scored let sound since went all beat hour";
        static final int FIRST_WORD = -2;
        static final int FIRST_SIGN = -20;
        static final int PLUS = -20;
        static final int MINUS = -21;
        static final int TIMES = -22;
        static final int DIVIDED = -23;
        static final int REST = -24;
        static final int BELOW = -25;
        static final int AT_MOST = -26;
        static final int EQUAL = -27;
        static final int AT_LEAST = -28;
        static final int ABOVE = -29;
        static final int AND = -30;
        static final int OR = -31;
        static final int NOT = -32;
        static final int ANSWER = -33;
        static final int ANSWER_IF = -34;

        /** A SUM, two joined TESTS for each of 11 depths, and 4 of a FACT stand open at most. */
        private static final int MOST_OPEN = 32;

        private final int[] steps;
        private final long[] open = new long[MOST_OPEN];

        Rule(int[] steps) {
            this.steps = steps;
        }

        /** The SUM of the first CLAUSE that holds for a ROAD, when these are LET IN by now. */
        long sumFor(Junction junction, int road, int let) {
            int top = 0;
            for (int i = 0; i < steps.length; i++) {
                int step = steps[i];
                if (step > FIRST_SIGN) {
                    if (top < MOST_OPEN) {
                        open[top] = step >= 0 ? step : junction.wordFor(FIRST_WORD - step, road, let);
                        top++;
                    }
                } else if (step == NOT && top > 0) {
                    open[top - 1] = truth(open[top - 1] == 0);
                } else if (step == ANSWER && top > 0) {
                    return open[top - 1];
                } else if (step == ANSWER_IF && top > 1) {
                    if (open[top - 1] != 0) {
                        return open[top - 2];
                    }
                    top = 0;
                } else if (top > 1) {
                    top--;
                    open[top - 1] = joined(step, open[top - 1], open[top]);
                }
            }
            return 0;
        }

        private static long joined(int sign, long one, long other) {
            switch (sign) {
                case PLUS: return one + other;
                case MINUS: return one - other;
                case TIMES: return one * other;
                case DIVIDED: return other == 0 ? 0 : one / other;
                case REST: return other == 0 ? 0 : one % other;
                case BELOW: return truth(one < other);
                case AT_MOST: return truth(one <= other);
                case EQUAL: return truth(one == other);
                case AT_LEAST: return truth(one >= other);
                case ABOVE: return truth(one > other);
                case AND: return one & other;
                default: return one | other;
            }
        }

        private static long truth(boolean holds) {
            return holds ? 1 : 0;
        }
    }

    /** A JUNCTION as it is at the begin of a BEAT. */
    private static final class Junction {
        private static final int[] SOUNDS = {0, -3, -1, 2, 3, 2, -2, 3, 1, 1, -1, -3};
        private static final int MOST_WAITED = 99999;
        private static final int MOST_HEARD = 9999;
        private static final int MOST_SINCE = 99;

        private final int[] wait = new int[MOST_ROADS];
        private final int[] every = new int[MOST_ROADS];
        private final int[] part = new int[MOST_ROADS];
        private final int[] clash = new int[MOST_ROADS];
        private final int[] went = new int[MOST_ROADS];
        private final int[] waited = new int[MOST_ROADS];
        private final int[] lastLetIn = new int[MOST_ROADS];
        private final int[] gone = new int[MOST_ROADS];
        private final int[] score = new int[MOST_BARS];
        private int bar = 0;
        private int room = 0;
        private int roads = 0;
        private int beat = 0;
        private int heard = 0;
        private int shut = NONE;

        void forget() {
            Arrays.fill(wait, 0);
            Arrays.fill(every, 0);
            Arrays.fill(part, 0);
            Arrays.fill(clash, 0);
            Arrays.fill(went, 0);
            Arrays.fill(waited, 0);
            Arrays.fill(lastLetIn, NONE);
            Arrays.fill(gone, 0);
            Arrays.fill(score, 0);
            bar = 0;
            room = 0;
            roads = 0;
            beat = 0;
            heard = 0;
            shut = NONE;
        }

        void copyFrom(Junction other) {
            System.arraycopy(other.wait, 0, wait, 0, MOST_ROADS);
            System.arraycopy(other.every, 0, every, 0, MOST_ROADS);
            System.arraycopy(other.part, 0, part, 0, MOST_ROADS);
            System.arraycopy(other.clash, 0, clash, 0, MOST_ROADS);
            System.arraycopy(other.went, 0, went, 0, MOST_ROADS);
            System.arraycopy(other.waited, 0, waited, 0, MOST_ROADS);
            System.arraycopy(other.lastLetIn, 0, lastLetIn, 0, MOST_ROADS);
            System.arraycopy(other.gone, 0, gone, 0, MOST_ROADS);
            System.arraycopy(other.score, 0, score, 0, MOST_BARS);
            bar = other.bar;
            room = other.room;
            roads = other.roads;
            beat = other.beat;
            heard = other.heard;
            shut = other.shut;
        }

        void addRoad(int waits, int comesEvery, int hasPart) {
            if (roads >= 0 && roads < MOST_ROADS) {
                wait[roads] = waits;
                every[roads] = comesEvery;
                part[roads] = hasPart;
                roads++;
            }
        }

        boolean isTold() {
            return bar > 0;
        }

        boolean hasRoad(int road) {
            return road >= 0 && road < roads;
        }

        boolean hasBeat(int beatOfBar) {
            return beatOfBar >= 0 && beatOfBar < bar;
        }

        int beatOfBar() {
            return bar > 0 ? beat % bar : 0;
        }

        int sumOf(int[] ofRoads) {
            int sum = 0;
            for (int road = 0; road < roads; road++) {
                sum += ofRoads[road];
            }
            return sum;
        }

        /** The least of the ROADS on which most wait; 0 without ROADS. */
        int fullest() {
            int fullest = 0;
            for (int road = 1; road < roads; road++) {
                if (wait[road] > wait[fullest]) {
                    fullest = road;
                }
            }
            return fullest;
        }

        int sinceLetIn(int road) {
            return lastLetIn[road] == NONE ? MOST_SINCE : Math.min(MOST_SINCE, beat - lastLetIn[road]);
        }

        boolean isPeaceful(int set) {
            for (int road = 0; road < roads; road++) {
                if ((set >> road & 1) == 1 && (clash[road] & set) != 0) {
                    return false;
                }
            }
            return true;
        }

        int soundOf(int set) {
            int sound = 0;
            for (int road = 1; road < roads; road++) {
                if ((set >> road & 1) == 1) {
                    sound += soundWith(set & (1 << road) - 1, road);
                }
            }
            return sound;
        }

        int soundWith(int set, int road) {
            int sound = 0;
            for (int other = 0; other < roads; other++) {
                if ((set >> other & 1) == 1) {
                    int apart = Math.abs(part[road] - part[other]);
                    sound += apart < SOUNDS.length ? SOUNDS[apart] : 0;
                }
            }
            return sound;
        }

        long wordFor(int word, int road, int let) {
            switch (word) {
                case 0: return road;
                case 1: return wait[road];
                case 2: return every[road];
                case 3: return part[road];
                case 4: return score[beatOfBar()] >> road & 1;
                case 5: return Integer.bitCount(let);
                case 6: return soundWith(let, road);
                case 7: return sinceLetIn(road);
                case 8: return went[road];
                case 9: return sumOf(wait);
                case 10: return beatOfBar();
                default: return bar > 0 ? beat / bar : 0;
            }
        }

        void addWaiting(int road, int many) {
            wait[road] = Math.min(MOST_WAIT, wait[road] + many);
        }

        /** As many as ROOM lets go from a ROAD. */
        int leave(int road) {
            int many = Math.min(room, wait[road]);
            wait[road] -= many;
            went[road] += many;
            return many;
        }

        /** The ROADS that are LET IN, as bits; without a RULE the score says which. */
        int oneBeat(Rule rule) {
            arrive();
            int let = 0;
            int scored = score[beatOfBar()];
            for (int road = 0; road < roads; road++) {
                if ((clash[road] & let) == 0) {
                    boolean in = rule == null ? (scored >> road & 1) == 1 : rule.sumFor(this, road, let) > 0;
                    let |= in ? 1 << road : 0;
                }
            }
            goThrough(let);
            return let;
        }

        void goOn(int beats, Rule rule) {
            for (int i = 0; i < beats; i++) {
                oneBeat(rule);
            }
        }

        void arrive() {
            for (int road = 0; road < roads; road++) {
                if (road != shut && every[road] > 0 && beat % every[road] == 0) {
                    addWaiting(road, 1);
                }
            }
        }

        void goThrough(int set) {
            int sounding = 0;
            for (int road = 0; road < roads; road++) {
                gone[road] = 0;
                if ((set >> road & 1) == 1) {
                    lastLetIn[road] = beat;
                    gone[road] = leave(road);
                    sounding |= gone[road] > 0 ? 1 << road : 0;
                }
                waited[road] = Math.min(MOST_WAITED, waited[road] + wait[road]);
            }
            heard = heardBehind(heard, soundOf(sounding));
            beat++;
        }

        static int heardBehind(int heard, int sound) {
            return Math.max(-MOST_HEARD, Math.min(MOST_HEARD, heard + sound));
        }
    }

    /** The JUNCTION as it was ahead of each of the last ACTS. */
    private static final class History {
        private final Junction[] before = new Junction[MOST_UNDONE];
        private int next = 0;
        private int size = 0;

        History() {
            for (int i = 0; i < MOST_UNDONE; i++) {
                before[i] = new Junction();
            }
        }

        void keep(Junction junction) {
            before[next].copyFrom(junction);
            next = (next + 1) % MOST_UNDONE;
            size = Math.min(MOST_UNDONE, size + 1);
        }

        void takeBack(Junction junction) {
            if (size > 0) {
                next = (next + MOST_UNDONE - 1) % MOST_UNDONE;
                size--;
                junction.copyFrom(before[next]);
            }
        }
    }

    private static final class Notes {
        private final int[] beats = new int[MOST_NOTES];
        private final int[] roads = new int[MOST_NOTES];
        private final int[] many = new int[MOST_NOTES];
        private int size = 0;

        void add(int beat, int road, int went) {
            if (size >= 0 && size < MOST_NOTES) {
                beats[size] = beat;
                roads[size] = road;
                many[size] = went;
                size++;
            }
        }

        boolean agree(int beat, int[] gone) {
            for (int i = 0; i < size; i++) {
                if (beats[i] == beat && gone[roads[i]] != many[i]) {
                    return false;
                }
            }
            return true;
        }

        void copyFrom(Notes other) {
            System.arraycopy(other.beats, 0, beats, 0, MOST_NOTES);
            System.arraycopy(other.roads, 0, roads, 0, MOST_NOTES);
            System.arraycopy(other.many, 0, many, 0, MOST_NOTES);
            size = other.size;
        }
    }

    private static final class Image {
        private final Junction now = new Junction();
        private final Junction told = new Junction();
        private final Notes notes = new Notes();
        private boolean made = false;
        private int inForce = NONE;
        private int drawn = 0;
    }

    /**
     * ROW. What is WAITED on a ROAD depends on the BEATS in which that ROAD is LET IN alone, so it
     * is found once for each such choice (as bits), and rows only add it up.
     */
    private static final class RowSearch {
        static final int MOST_BEATS = 3;

        /** More than on all ROADS together can have been WAITED. */
        private static final int NO_ROW_YET = MOST_ROADS * Junction.MOST_WAITED + 1;

        private final int[][] waitedBy = new int[MOST_ROADS][1 << MOST_BEATS];
        private final int[][] waitingBy = new int[MOST_ROADS][1 << MOST_BEATS];
        private final int[] sets = new int[1 << MOST_ROADS];
        private final int[] sounds = new int[1 << MOST_ROADS];
        private final int[] picked = new int[MOST_BEATS];
        private final int[] best = new int[MOST_BEATS];
        private int setCount = 0;
        private int roads = 0;
        private int beats = 0;
        private int heardBefore = 0;
        private int leastWaited = 0;
        private int mostHeard = 0;

        void search(Junction now, Junction trial, int n) {
            roads = now.roads;
            beats = n;
            heardBefore = now.heard;
            leastWaited = NO_ROW_YET;
            mostHeard = 0;
            setCount = 0;
            for (int set = 0; set < 1 << roads; set++) {
                if (now.isPeaceful(set)) {
                    sets[setCount] = set;
                    sounds[setCount] = now.soundOf(set);
                    setCount++;
                }
            }
            for (int choice = 0; choice < 1 << beats; choice++) {
                trial.copyFrom(now);
                tryChoice(trial, choice);
            }
            choose(0);
        }

        private void tryChoice(Junction trial, int choice) {
            for (int road = 0; road < roads; road++) {
                waitingBy[road][choice] = 0;
            }
            for (int i = 0; i < beats; i++) {
                trial.arrive();
                for (int road = 0; road < roads; road++) {
                    waitingBy[road][choice] |= trial.wait[road] > 0 ? 1 << i : 0;
                }
                trial.goThrough((choice >> i & 1) == 1 ? (1 << roads) - 1 : 0);
            }
            for (int road = 0; road < roads; road++) {
                waitedBy[road][choice] = trial.waited[road];
            }
        }

        private void choose(int depth) {
            int atLeast = waitedAtLeast(depth);
            if (atLeast > leastWaited) {
                return;
            }
            if (depth >= beats) {
                weigh(atLeast);
                return;
            }
            // A ROAD on which nobody waits changes nothing, and the row without it comes first.
            int idle = ~waitingRoads(depth);
            for (int i = 0; i < setCount; i++) {
                if ((sets[i] & idle) == 0) {
                    picked[depth] = i;
                    choose(depth + 1);
                }
            }
        }

        /** What is WAITED if on all BEATS that are left all ROADS are LET IN. */
        private int waitedAtLeast(int depth) {
            int left = (1 << beats) - (1 << depth);
            int sum = 0;
            for (int road = 0; road < roads; road++) {
                sum += waitedBy[road][choiceOf(road, depth) | left];
            }
            return sum;
        }

        private int waitingRoads(int depth) {
            int waiting = 0;
            for (int road = 0; road < roads; road++) {
                waiting |= (waitingBy[road][choiceOf(road, depth)] >> depth & 1) << road;
            }
            return waiting;
        }

        private int choiceOf(int road, int depth) {
            int choice = 0;
            for (int i = 0; i < depth; i++) {
                choice |= (sets[picked[i]] >> road & 1) << i;
            }
            return choice;
        }

        private void weigh(int waited) {
            int heard = heardBefore;
            for (int i = 0; i < beats; i++) {
                heard = Junction.heardBehind(heard, sounds[picked[i]]);
            }
            if (waited < leastWaited || heard > mostHeard) {
                leastWaited = waited;
                mostHeard = heard;
                for (int i = 0; i < beats; i++) {
                    best[i] = sets[picked[i]];
                }
            }
        }
    }
}
