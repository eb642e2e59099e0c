/** Promises 11 and 12: play and count, and what the terms say of a beat. */
final class BeatsTest {
    private static final Class<IllegalArgumentException> ARGUMENT = IllegalArgumentException.class;
    private static final Class<IndexOutOfBoundsException> INDEX = IndexOutOfBoundsException.class;
    private static final int[] FAR_INTS = {Integer.MIN_VALUE, Integer.MAX_VALUE};

    private static final Checks checks = new Checks();

    public static void main(String[] args) {
        playRefuses();
        airFills();
        airIsNeeded();
        farthestTone();
        nearestGlassPlays();
        oneNoteABeat();
        notesInTheirOrder();
        inTune();
        cracks();
        rings();
        dries();
        comesRound();
        counts();
        checks.end();
    }

    private static void playRefuses() {
        GlassHarp harp = new GlassHarp();
        checks.refused("0 beats", harp, ARGUMENT, () -> harp.play(0));
        checks.refused("-1 beats", harp, ARGUMENT, () -> harp.play(-1));
        checks.refused("201 beats", harp, ARGUMENT, () -> harp.play(201));
        for (int far : FAR_INTS) {
            checks.refused("far beats", harp, ARGUMENT, () -> harp.play(far));
        }
        checks.same("200 beats", harp.play(200), 0);
        checks.same("the beat then", harp.count(0), 200);
        checks.same("1 beat", harp.play(1), 0);
        checks.same("the beat then", harp.count(0), 201);
    }

    private static void airFills() {
        GlassHarp harp = new GlassHarp();
        harp.pump(0, 9);
        harp.pump(1, 0);
        harp.play(3);
        checks.same("9 in each beat", harp.row(0, 0), 57);
        checks.same("none in each beat", harp.row(1, 0), 30);
        checks.same("3 in each beat", harp.row(2, 0), 39);
        harp.play(1);
        checks.same("at most 60", harp.row(0, 0), 60);
        checks.same("all air", harp.count(7), 60 + 30 + 42 + 42);
    }

    /** 30 of air are enough for five times 6, and the last 6 are enough for one more. */
    private static void airIsNeeded() {
        GlassHarp harp = new GlassHarp();
        harp.set(0, 9, 0);
        harp.note(0, 48, 6);
        harp.setLength(1);
        harp.pump(0, 0);
        checks.same("as much air as the force", harp.play(5), 5);
        checks.same("no air is left", harp.row(0, 0), 0);
        checks.same("the others' air", harp.row(1, 0), 45);
        checks.same("without air", harp.play(1), 0);
        checks.same("missed", harp.count(6), 1);
        harp.pump(0, 5);
        checks.same("one too little", harp.play(1), 0);
        harp.pump(0, 1);
        checks.same("the pumper comes first", harp.play(1), 1);
    }

    private static void farthestTone() {
        for (int far = -8; far <= 8; far++) {
            GlassHarp harp = new GlassHarp();
            harp.set(0, 5, 0);
            harp.note(0, 80 + far, 1);
            int played = far >= -6 && far <= 6 ? 1 : 0;
            checks.same("played, " + far + " off", harp.play(1), played);
            checks.same("missed, " + far + " off", harp.count(6), 1 - played);
            checks.same("in tune, " + far + " off", harp.count(5), far >= -1 && far <= 1 ? 1 : 0);
        }
    }

    private static void nearestGlassPlays() {
        GlassHarp harp = new GlassHarp();
        harp.set(0, 5, 100);
        harp.set(1, 5, 0);
        harp.set(2, 5, 40);
        harp.set(3, 5, 80);
        harp.note(0, 77, 1);
        harp.play(1);
        int[] plays = {0, 0, 1, 0};
        for (int glass = 0; glass < plays.length; glass++) {
            checks.same("plays of glass " + glass, harp.glass(glass, 6), plays[glass]);
        }
        GlassHarp tie = new GlassHarp();
        tie.set(0, 5, 100);
        tie.set(1, 5, 60);
        tie.set(2, 5, 20);
        tie.note(0, 78, 1);
        tie.play(1);
        checks.same("of several the smallest number", tie.glass(1, 6), 1);
        checks.same("the other as near does not", tie.glass(2, 6), 0);
        GlassHarp dry = new GlassHarp();
        dry.set(0, 5, 0);
        dry.set(1, 5, 60);
        dry.pump(0, 0);
        dry.setLength(1);
        dry.note(0, 80, 8);
        checks.same("the nearest without air lets the next play", dry.play(4), 4);
        checks.same("the nearest", dry.glass(0, 6), 3);
        checks.same("the next", dry.glass(1, 6), 1);
    }

    private static void oneNoteABeat() {
        GlassHarp harp = new GlassHarp();
        harp.set(0, 5, 0);
        harp.note(0, 80, 1);
        harp.note(0, 80, 1);
        checks.same("one glass", harp.play(1), 1);
        checks.same("missed", harp.count(6), 1);
        harp.set(0, 5, 60);
        checks.same("two glasses", harp.play(16), 2);
        checks.same("missed", harp.count(6), 1);
        checks.same("the second glass", harp.glass(1, 6), 1);
    }

    private static void notesInTheirOrder() {
        GlassHarp harp = new GlassHarp();
        harp.set(0, 5, 0);
        harp.note(0, 74, 2);
        harp.note(0, 80, 1);
        checks.same("the note told first is played", harp.play(1), 1);
        checks.same("it is out of tune", harp.count(5), 0);
        checks.same("it took its force", harp.row(0, 0), 31);
        harp.strike(0);
        harp.note(0, 74, 2);
        harp.play(16);
        checks.same("the order then", harp.count(5), 1);
    }

    /** The tone is heard ahead of losing drops: 111 for the note 110, though it is 112 then. */
    private static void inTune() {
        GlassHarp harp = new GlassHarp();
        harp.set(0, 1, 4);
        harp.note(0, 110, 4);
        harp.play(1);
        checks.same("in tune", harp.count(5), 1);
        checks.same("the tone then", harp.glass(0, 3), 112);
        checks.same("the drops then", harp.glass(0, 2), 0);
        GlassHarp other = new GlassHarp();
        other.set(0, 1, 4);
        other.note(0, 113, 4);
        other.play(1);
        checks.same("out of tune", other.count(5), 0);
    }

    private static void cracks() {
        GlassHarp harp = new GlassHarp();
        harp.set(0, 5, 100);
        harp.note(0, 75, 8);
        harp.play(1);
        checks.same("size + 3 does not crack", harp.glass(0, 4), 0);
        checks.same("it loses the force, and one by drying", harp.glass(0, 2), 91);
        harp.strike(0);
        harp.note(1, 76, 9);
        checks.same("the note that cracks is played", harp.play(1), 1);
        checks.same("and in tune", harp.count(5), 2);
        int[] due = {0, 5, 0, 80, 1, 0, 2, 0};
        for (int what = 0; what < due.length; what++) {
            checks.same("a cracked glass, " + what, harp.glass(0, what), due[what]);
        }
        checks.same("it took air", harp.row(0, 0), 33 - 8 + 3 - 9);
        checks.same("cracked glasses", harp.count(2), 1);
        harp.strike(0);
        harp.note(2, 80, 1);
        checks.same("a cracked glass does not play", harp.play(1), 0);
        checks.same("it is missed", harp.count(6), 1);
        GlassHarp many = new GlassHarp();
        for (int size = 1; size <= 9; size++) {
            many.set(size % 4, size, 0);
            many.note(size, 120 - 8 * size, Math.min(9, size + 4));
        }
        many.play(16);
        for (int size = 1; size <= 9; size++) {
            checks.same("size " + size, many.glass(size - 1, 4), size <= 5 ? 1 : 0);
        }
        checks.same("cracked of nine", many.count(2), 5);
    }

    private static void rings() {
        GlassHarp harp = new GlassHarp();
        harp.set(0, 5, 0);
        harp.note(0, 80, 1);
        harp.note(3, 80, 1);
        int[] due = {9, 8, 7, 9, 8, 7, 6, 5, 4, 3, 2, 1, 0, 0, 0, 0, 9};
        for (int beat = 0; beat < due.length; beat++) {
            harp.play(1);
            checks.same("ring after beat " + beat, harp.glass(0, 5), due[beat]);
        }
    }

    private static void dries() {
        GlassHarp harp = new GlassHarp();
        harp.set(0, 5, 10);
        harp.set(0, 5, 1);
        harp.note(8, 80, 2);
        harp.set(1, 8, 100);
        harp.note(8, 56, 2);
        int[] due = {99, 99, 99, 99, 99, 99, 99, 99, 98, 98, 98, 98, 98, 98, 98, 98, 97};
        for (int beat = 0; beat < due.length; beat++) {
            harp.play(1);
            checks.same("drops after beat " + beat, harp.glass(2, 2), beat < 8 ? due[beat] : due[beat] - 2);
        }
        checks.same("a glass that played dries too", harp.glass(0, 2), 10 - 2 - 3);
        checks.same("at least 0 are left", harp.glass(1, 2), 0);
        GlassHarp last = new GlassHarp();
        last.set(0, 5, 3);
        last.note(1, 80, 3);
        last.note(2, 80, 1);
        last.drop(0, 1);
        last.play(2);
        checks.same("all are lost", last.glass(0, 2), 0);
        last.play(1);
        checks.same("none can be lost", last.glass(0, 2), 0);
    }

    private static void comesRound() {
        GlassHarp harp = new GlassHarp();
        harp.set(0, 9, 0);
        harp.note(2, 48, 1);
        harp.setLength(3);
        int[] due = {0, 0, 1, 0, 0, 1, 0, 0, 1};
        for (int beat = 0; beat < due.length; beat++) {
            checks.same("beat " + beat, harp.play(1), due[beat]);
        }
        checks.same("in 200 beats", harp.play(200), 66);
        GlassHarp longest = new GlassHarp();
        longest.set(0, 9, 0);
        longest.note(63, 48, 1);
        longest.setLength(64);
        checks.same("beats 0 to 62", longest.play(63), 0);
        checks.same("beat 63", longest.play(1), 1);
        checks.same("beats 64 to 126", longest.play(63), 0);
        checks.same("beat 127", longest.play(1), 1);
    }

    private static void counts() {
        GlassHarp harp = new GlassHarp();
        harp.set(0, 9, 0);
        harp.set(1, 1, 0);
        harp.note(0, 48, 2);
        harp.note(0, 108, 5);
        harp.note(0, 10, 1);
        harp.note(1, 50, 3);
        harp.note(1, 49, 3);
        harp.play(2);
        int[] due = {2, 2, 1, 5, 3, 1, 2, (33 - 2 + 3 - 3) + (33 - 5 + 3) + 36 + 36, 0};
        for (int what = 0; what < due.length; what++) {
            checks.same("count(" + what + ")", harp.count(what), due[what]);
        }
        checks.same("in all", harp.play(16), 2);
        checks.same("played in all", harp.count(4), 5);
        checks.same("missed in all", harp.count(6), 5);
        checks.refused("what -1", harp, INDEX, () -> harp.count(-1));
        checks.refused("what 9", harp, INDEX, () -> harp.count(9));
        for (int far : FAR_INTS) {
            checks.refused("far what", harp, INDEX, () -> harp.count(far));
        }
    }
}
