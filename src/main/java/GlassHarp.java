/** A bellows orchestra of glass harps. */
public final class GlassHarp {
    private static final int MOST_GLASSES = 16;
    private static final int MOST_SIZE = 9;
    private static final int MOST_DROPS_PER_SIZE = 100;
    private static final int MOST_DROPPED = 200;
    private static final int MOST_RING = 9;
    private static final int GLASS_FACTS = 8;

    private static final int ROWS = 4;
    private static final int MOST_AIR = 60;
    private static final int FIRST_AIR = 30;
    private static final int MOST_PUMP = 9;
    private static final int FIRST_PUMP = 3;
    private static final int ROW_FACTS = 3;

    private static final int MOST_NOTES = 32;
    private static final int MOST_LENGTH = 64;
    private static final int FIRST_LENGTH = 16;
    private static final int MOST_TONE = 120;
    private static final int MOST_FORCE = 9;
    private static final int NOTE_FACTS = 3;

    private static final int MOST_BEATS_PLAYED = 200;
    private static final int MOST_BEATS_FORESEEN = 150;
    private static final int MOST_BEATS_TRIED = 80;
    private static final int FARTHEST_TONE = 6;
    private static final int FARTHEST_IN_TUNE = 1;
    private static final int FARTHEST_BEATING = 2;
    private static final int FORCE_ABOVE_SIZE = 3;
    private static final int BEATS_PER_DRYING = 8;
    private static final int COUNTS = 9;
    private static final int FORESEEN = 4;

    private static final int NONE = -1;
    private static final long FIRST_DIGEST = 829L;
    private static final long DIGEST_FACTOR = 31L;

    private final Score score;
    private final Orchestra now;
    /** Made once and used again, since what a run makes is counted. */
    private final Orchestra trial;

    public GlassHarp() {
        score = new Score();
        now = new Orchestra(score);
        trial = new Orchestra(score);
    }

    // ---- glasses and bellows

    public int set(int row, int size, int drops) throws IllegalArgumentException, IllegalStateException {
        if (!isWithin(row, 0, ROWS - 1) || !isWithin(size, 1, MOST_SIZE)) {
            throw new IllegalArgumentException("row is not 0 to 3, or size is not 1 to 9");
        }
        if (!isWithin(drops, 0, MOST_DROPS_PER_SIZE * size)) {
            throw new IllegalArgumentException("drops is not 0 to 100 * size");
        }
        int number = now.addGlass(row, size, drops);
        if (number == NONE) {
            throw new IllegalStateException("there are 16 glasses");
        }
        return number;
    }

    public int drop(int glass, int drops)
            throws IndexOutOfBoundsException, IllegalArgumentException, IllegalStateException {
        if (!now.hasGlass(glass)) {
            throw new IndexOutOfBoundsException("no such glass");
        }
        if (drops == 0 || !isWithin(drops, -MOST_DROPPED, MOST_DROPPED)) {
            throw new IllegalArgumentException("drops is 0, or not -200 to 200");
        }
        if (now.cracked[glass]) {
            throw new IllegalStateException("the glass is cracked");
        }
        int then = now.drops[glass] + drops;
        if (!isWithin(then, 0, now.mostDrops(glass))) {
            throw new IllegalStateException("less than 0 drops, or more than 100 * the size");
        }
        now.drops[glass] = then;
        return now.toneOf(glass);
    }

    public int pump(int row, int pump) throws IndexOutOfBoundsException, IllegalArgumentException {
        if (!isWithin(row, 0, ROWS - 1)) {
            throw new IndexOutOfBoundsException("row is not 0 to 3");
        }
        if (!isWithin(pump, 0, MOST_PUMP)) {
            throw new IllegalArgumentException("pump is not 0 to 9");
        }
        int before = now.pumps[row];
        now.pumps[row] = pump;
        return before;
    }

    public int glass(int glass, int what) throws IndexOutOfBoundsException {
        if (!now.hasGlass(glass) || !isWithin(what, 0, GLASS_FACTS - 1)) {
            throw new IndexOutOfBoundsException("no such glass, or what is not 0 to 7");
        }
        switch (what) {
            case 0:
                return now.rows[glass];
            case 1:
                return now.sizes[glass];
            case 2:
                return now.drops[glass];
            case 3:
                return now.toneOf(glass);
            case 4:
                return now.cracked[glass] ? 1 : 0;
            case 5:
                return now.rings[glass];
            case 6:
                return now.plays[glass];
            default:
                return now.glassesBeatingAgainst(glass);
        }
    }

    public int row(int row, int what) throws IndexOutOfBoundsException {
        if (!isWithin(row, 0, ROWS - 1) || !isWithin(what, 0, ROW_FACTS - 1)) {
            throw new IndexOutOfBoundsException("row is not 0 to 3, or what is not 0 to 2");
        }
        switch (what) {
            case 0:
                return now.air[row];
            case 1:
                return now.pumps[row];
            default:
                return now.glassesInRow(row);
        }
    }

    // ---- the score

    public int setLength(int length) throws IllegalArgumentException {
        if (!isWithin(length, 1, MOST_LENGTH)) {
            throw new IllegalArgumentException("length is not 1 to 64");
        }
        int before = score.length;
        score.length = length;
        return before;
    }

    public int note(int beat, int tone, int force) throws IllegalArgumentException, IllegalStateException {
        if (!isWithin(beat, 0, MOST_LENGTH - 1) || !isWithin(tone, 0, MOST_TONE)) {
            throw new IllegalArgumentException("beat is not 0 to 63, or tone is not 0 to 120");
        }
        if (!isWithin(force, 1, MOST_FORCE)) {
            throw new IllegalArgumentException("force is not 1 to 9");
        }
        if (!score.write(beat, tone, force)) {
            throw new IllegalStateException("there are 32 notes");
        }
        return score.notes;
    }

    public int strike(int index) throws IndexOutOfBoundsException {
        if (!score.hasNote(index)) {
            throw new IndexOutOfBoundsException("no such place");
        }
        int tone = score.tones[index];
        score.takeOut(index);
        return tone;
    }

    public int written(int index, int what) throws IndexOutOfBoundsException {
        if (!score.hasNote(index) || !isWithin(what, 0, NOTE_FACTS - 1)) {
            throw new IndexOutOfBoundsException("no such place, or what is not 0 to 2");
        }
        switch (what) {
            case 0:
                return score.beats[index];
            case 1:
                return score.tones[index];
            default:
                return score.forces[index];
        }
    }

    // ---- beats

    public int play(int beats) throws IllegalArgumentException {
        if (!isWithin(beats, 1, MOST_BEATS_PLAYED)) {
            throw new IllegalArgumentException("beats is not 1 to 200");
        }
        int before = now.played;
        now.letGoBy(beats);
        return now.played - before;
    }

    public int count(int what) throws IndexOutOfBoundsException {
        if (!isWithin(what, 0, COUNTS - 1)) {
            throw new IndexOutOfBoundsException("what is not 0 to 8");
        }
        switch (what) {
            case 0:
                return now.beat;
            case 1:
                return now.glasses;
            case 2:
                return now.crackedGlasses();
            case 3:
                return score.notes;
            case 4:
                return now.played;
            case 5:
                return now.inTune;
            case 6:
                return now.missed;
            case 7:
                return now.allAir();
            default:
                return now.pairsBeating();
        }
    }

    // ---- what would be

    public int needs(int glass, int tone) throws IndexOutOfBoundsException, IllegalArgumentException {
        if (!now.hasGlass(glass)) {
            throw new IndexOutOfBoundsException("no such glass");
        }
        if (!isWithin(tone, 0, MOST_TONE)) {
            throw new IllegalArgumentException("tone is not 0 to 120");
        }
        return now.fewestDropsFor(glass, tone);
    }

    public int foresee(int beats, int what) throws IllegalArgumentException, IndexOutOfBoundsException {
        if (!isWithin(beats, 1, MOST_BEATS_FORESEEN)) {
            throw new IllegalArgumentException("beats is not 1 to 150");
        }
        if (!isWithin(what, 0, FORESEEN - 1)) {
            throw new IndexOutOfBoundsException("what is not 0 to 3");
        }
        trial.takeOver(now);
        trial.letGoBy(beats);
        switch (what) {
            case 0:
                return trial.played - now.played;
            case 1:
                return trial.inTune - now.inTune;
            case 2:
                return trial.missed - now.missed;
            default:
                return trial.crackedGlasses();
        }
    }

    public int advise(int tone, int beats) throws IllegalArgumentException {
        if (!isWithin(tone, 0, MOST_TONE)) {
            throw new IllegalArgumentException("tone is not 0 to 120");
        }
        if (!isWithin(beats, 1, MOST_BEATS_TRIED)) {
            throw new IllegalArgumentException("beats is not 1 to 80");
        }
        trial.takeOver(now);
        trial.letGoBy(beats);
        int most = trial.inTune;
        int best = NONE;
        for (int glass = 0; glass < now.glasses; glass++) {
            if (now.canBeTuned(glass, tone)) {
                int inTune = inTuneIfTuned(glass, tone, beats);
                if (inTune > most) {
                    most = inTune;
                    best = glass;
                }
            }
        }
        return best;
    }

    public int wants(int row, int beats) throws IndexOutOfBoundsException, IllegalArgumentException {
        if (!isWithin(row, 0, ROWS - 1)) {
            throw new IndexOutOfBoundsException("row is not 0 to 3");
        }
        if (!isWithin(beats, 1, MOST_BEATS_TRIED)) {
            throw new IllegalArgumentException("beats is not 1 to 80");
        }
        int allowed = missedIfPumped(row, MOST_PUMP, beats);
        // More air may let a glass play that it cracks, so a middle pump can miss
        // more than a lower one: each is tried, from the least.
        for (int pump = 0; pump < MOST_PUMP; pump++) {
            if (missedIfPumped(row, pump, beats) <= allowed) {
                return pump;
            }
        }
        return MOST_PUMP;
    }

    public double mean() {
        int due = now.played + now.missed;
        if (due == 0) {
            return 0.0;
        }
        return (double) now.inTune / (double) due;
    }

    public long digest() {
        long d = FIRST_DIGEST;
        for (int what = 0; what < COUNTS; what++) {
            d = digested(d, count(what));
        }
        d = digested(d, score.length);
        for (int glass = 0; glass < now.glasses; glass++) {
            for (int what = 0; what < GLASS_FACTS; what++) {
                d = digested(d, glass(glass, what));
            }
        }
        for (int row = 0; row < ROWS; row++) {
            for (int what = 0; what < ROW_FACTS; what++) {
                d = digested(d, row(row, what));
            }
        }
        for (int index = 0; index < score.notes; index++) {
            for (int what = 0; what < NOTE_FACTS; what++) {
                d = digested(d, written(index, what));
            }
        }
        return d;
    }

    private int inTuneIfTuned(int glass, int tone, int beats) {
        trial.takeOver(now);
        trial.tuneTo(glass, tone);
        trial.letGoBy(beats);
        return trial.inTune;
    }

    private int missedIfPumped(int row, int pump, int beats) {
        trial.takeOver(now);
        trial.setPump(row, pump);
        trial.letGoBy(beats);
        return trial.missed;
    }

    private static long digested(long d, int x) {
        return d * DIGEST_FACTOR + x;
    }

    private static boolean isWithin(int number, int least, int most) {
        return number >= least && number <= most;
    }

    private static int distance(int tone, int other) {
        return tone < other ? other - tone : tone - other;
    }

    /** The notes, in the order of their telling. */
    private static final class Score {
        private final int[] beats = new int[MOST_NOTES];
        private final int[] tones = new int[MOST_NOTES];
        private final int[] forces = new int[MOST_NOTES];
        private int notes = 0;
        private int length = FIRST_LENGTH;

        private boolean hasNote(int index) {
            return index >= 0 && index < notes;
        }

        /** False, and nothing is written, if the score is full. */
        private boolean write(int beat, int tone, int force) {
            if (notes >= MOST_NOTES) {
                return false;
            }
            beats[notes] = beat;
            tones[notes] = tone;
            forces[notes] = force;
            notes++;
            return true;
        }

        private void takeOut(int index) {
            if (!hasNote(index)) {
                return;
            }
            for (int i = index; i + 1 < notes; i++) {
                beats[i] = beats[i + 1];
                tones[i] = tones[i + 1];
                forces[i] = forces[i + 1];
            }
            notes--;
        }

        /** The beat of the score that comes in this beat of time. */
        private int beatAt(int beat) {
            return length > 0 ? beat % length : 0;
        }
    }

    /** The glasses and the bellows, and what they have played; the score is only read. */
    private static final class Orchestra {
        private final Score score;
        private final int[] rows = new int[MOST_GLASSES];
        private final int[] sizes = new int[MOST_GLASSES];
        private final int[] drops = new int[MOST_GLASSES];
        private final boolean[] cracked = new boolean[MOST_GLASSES];
        private final int[] rings = new int[MOST_GLASSES];
        private final int[] plays = new int[MOST_GLASSES];
        private final boolean[] busy = new boolean[MOST_GLASSES];
        private final int[] air = new int[ROWS];
        private final int[] pumps = new int[ROWS];
        private int glasses = 0;
        private int beat = 0;
        private int played = 0;
        private int inTune = 0;
        private int missed = 0;

        private Orchestra(Score score) {
            this.score = score;
            for (int row = 0; row < ROWS; row++) {
                air[row] = FIRST_AIR;
                pumps[row] = FIRST_PUMP;
            }
        }

        /** Whether a glass is busy is left out: each beat begins with none. */
        private void takeOver(Orchestra other) {
            for (int glass = 0; glass < other.glasses; glass++) {
                rows[glass] = other.rows[glass];
                sizes[glass] = other.sizes[glass];
                drops[glass] = other.drops[glass];
                cracked[glass] = other.cracked[glass];
                rings[glass] = other.rings[glass];
                plays[glass] = other.plays[glass];
            }
            for (int row = 0; row < ROWS; row++) {
                air[row] = other.air[row];
                pumps[row] = other.pumps[row];
            }
            glasses = other.glasses;
            beat = other.beat;
            played = other.played;
            inTune = other.inTune;
            missed = other.missed;
        }

        private boolean hasGlass(int glass) {
            return glass >= 0 && glass < glasses;
        }

        /** The number of the new glass, or NONE if there is no place for it. */
        private int addGlass(int row, int size, int dropsInIt) {
            if (glasses >= MOST_GLASSES) {
                return NONE;
            }
            int number = glasses;
            rows[number] = row;
            sizes[number] = size;
            drops[number] = dropsInIt;
            glasses++;
            return number;
        }

        private void setPump(int row, int pump) {
            if (isWithin(row, 0, ROWS - 1)) {
                pumps[row] = pump;
            }
        }

        private int mostDrops(int glass) {
            return hasGlass(glass) ? MOST_DROPS_PER_SIZE * sizes[glass] : 0;
        }

        private static int emptyTone(int size) {
            return 120 - 8 * size;
        }

        private static int dropsPerTone(int size) {
            return 4 * size;
        }

        private int toneOf(int glass) {
            if (!hasGlass(glass)) {
                return 0;
            }
            int divisor = dropsPerTone(sizes[glass]);
            int lower = divisor > 0 ? drops[glass] / divisor : 0;
            return Math.max(0, emptyTone(sizes[glass]) - lower);
        }

        /** NONE if the glass can't have the tone. */
        private int fewestDropsFor(int glass, int tone) {
            if (!hasGlass(glass)) {
                return NONE;
            }
            int size = sizes[glass];
            int fewest = dropsPerTone(size) * (emptyTone(size) - tone);
            return isWithin(fewest, 0, mostDrops(glass)) ? fewest : NONE;
        }

        private boolean canBeTuned(int glass, int tone) {
            return hasGlass(glass) && !cracked[glass] && fewestDropsFor(glass, tone) != NONE;
        }

        private void tuneTo(int glass, int tone) {
            if (canBeTuned(glass, tone)) {
                drops[glass] = fewestDropsFor(glass, tone);
            }
        }

        private int crackedGlasses() {
            int found = 0;
            for (int glass = 0; glass < glasses; glass++) {
                if (cracked[glass]) {
                    found++;
                }
            }
            return found;
        }

        private int glassesInRow(int row) {
            int found = 0;
            for (int glass = 0; glass < glasses; glass++) {
                if (rows[glass] == row) {
                    found++;
                }
            }
            return found;
        }

        private int allAir() {
            int sum = 0;
            for (int row = 0; row < ROWS; row++) {
                sum += air[row];
            }
            return sum;
        }

        private boolean beatAgainst(int glass, int other) {
            if (!hasGlass(glass) || !hasGlass(other) || rings[glass] < 1 || rings[other] < 1) {
                return false;
            }
            return isWithin(distance(toneOf(glass), toneOf(other)), 1, FARTHEST_BEATING);
        }

        /** The glass itself is never one of them: its tone differs from its own by 0. */
        private int glassesBeatingAgainst(int glass) {
            int found = 0;
            for (int other = 0; other < glasses; other++) {
                if (beatAgainst(glass, other)) {
                    found++;
                }
            }
            return found;
        }

        private int pairsBeating() {
            int found = 0;
            for (int glass = 0; glass < glasses; glass++) {
                found += glassesBeatingAgainst(glass);
            }
            // Each pair was found from both of its sides.
            return found / 2;
        }

        private void letGoBy(int beats) {
            for (int gone = 0; gone < beats; gone++) {
                fillBellows();
                playNotes();
                fadeAndDry();
                beat++;
            }
        }

        private void fillBellows() {
            for (int row = 0; row < ROWS; row++) {
                air[row] = Math.min(MOST_AIR, air[row] + pumps[row]);
            }
        }

        private void playNotes() {
            for (int glass = 0; glass < glasses; glass++) {
                busy[glass] = false;
            }
            int place = score.beatAt(beat);
            for (int index = 0; index < score.notes; index++) {
                if (score.beats[index] == place) {
                    int player = playerFor(score.tones[index], score.forces[index]);
                    if (hasGlass(player)) {
                        rub(player, score.tones[index], score.forces[index]);
                    } else {
                        missed++;
                    }
                }
            }
        }

        /** The glass that plays such a note, or NONE. */
        private int playerFor(int tone, int force) {
            int player = NONE;
            int least = FARTHEST_TONE + 1;
            for (int glass = 0; glass < glasses; glass++) {
                if (!cracked[glass] && !busy[glass] && hasAir(rows[glass], force)) {
                    int far = distance(toneOf(glass), tone);
                    if (far < least) {
                        least = far;
                        player = glass;
                    }
                }
            }
            return player;
        }

        private boolean hasAir(int row, int force) {
            return isWithin(row, 0, ROWS - 1) && air[row] >= force;
        }

        private void rub(int glass, int tone, int force) {
            played++;
            if (distance(toneOf(glass), tone) <= FARTHEST_IN_TUNE) {
                inTune++;
            }
            int row = rows[glass];
            if (hasAir(row, force)) {
                air[row] -= force;
            }
            busy[glass] = true;
            plays[glass]++;
            rings[glass] = MOST_RING;
            drops[glass] = Math.max(0, drops[glass] - force);
            if (force > sizes[glass] + FORCE_ABOVE_SIZE) {
                cracked[glass] = true;
                drops[glass] = 0;
                rings[glass] = 0;
            }
        }

        private void fadeAndDry() {
            boolean dries = beat % BEATS_PER_DRYING == 0;
            for (int glass = 0; glass < glasses; glass++) {
                if (!busy[glass]) {
                    rings[glass] = Math.max(0, rings[glass] - 1);
                }
                if (dries) {
                    drops[glass] = Math.max(0, drops[glass] - 1);
                }
            }
        }
    }
}
