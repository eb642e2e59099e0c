/** Promises 13 to 18: needs, foresee, advise, wants, mean, digest. */
final class WhatWouldBeTest {
    private static final Class<IllegalArgumentException> ARGUMENT = IllegalArgumentException.class;
    private static final Class<IndexOutOfBoundsException> INDEX = IndexOutOfBoundsException.class;
    private static final int[] FAR_INTS = {Integer.MIN_VALUE, Integer.MAX_VALUE};

    private static final Checks checks = new Checks();

    public static void main(String[] args) {
        needs();
        needsRefuses();
        foresee();
        foreseeRefuses();
        advise();
        adviseOfSeveral();
        adviseRefuses();
        wants();
        wantsOfAllRows();
        wantsRefuses();
        sixteenGlasses();
        mean();
        digest();
        checks.end();
    }

    private static void needs() {
        GlassHarp harp = new GlassHarp();
        for (int size = 1; size <= 9; size++) {
            int glass = harp.set(0, size, 50);
            int empty = 120 - 8 * size;
            checks.same("above its tones", harp.needs(glass, empty + 1), -1);
            checks.same("the empty glass", harp.needs(glass, empty), 0);
            checks.same("one lower", harp.needs(glass, empty - 1), 4 * size);
            checks.same("the full glass", harp.needs(glass, empty - 25), 100 * size);
            checks.same("below its tones", harp.needs(glass, empty - 26), -1);
            checks.same("tone 0", harp.needs(glass, 0), -1);
            checks.same("tone 120", harp.needs(glass, 120), -1);
        }
        checks.unchanged("needs", harp, () -> harp.needs(4, 70));
        harp.note(0, 112, 5);
        harp.drop(0, -50);
        harp.play(1);
        checks.same("cracked", harp.glass(0, 4), 1);
        checks.same("of a cracked glass", harp.needs(0, 100), 48);
    }

    private static void needsRefuses() {
        GlassHarp harp = new GlassHarp();
        checks.refused("no glass yet", harp, INDEX, () -> harp.needs(0, 0));
        harp.set(0, 1, 0);
        checks.refused("glass -1", harp, INDEX, () -> harp.needs(-1, 0));
        checks.refused("glass 1", harp, INDEX, () -> harp.needs(1, 0));
        checks.refused("glass 1, tone 121", harp, INDEX, () -> harp.needs(1, 121));
        checks.refused("tone -1", harp, ARGUMENT, () -> harp.needs(0, -1));
        checks.refused("tone 121", harp, ARGUMENT, () -> harp.needs(0, 121));
        for (int far : FAR_INTS) {
            checks.refused("far glass", harp, INDEX, () -> harp.needs(far, 0));
            checks.refused("far tone", harp, ARGUMENT, () -> harp.needs(0, far));
        }
    }

    /** A glass that plays in tune, one that plays out of tune and cracks, and a note for none. */
    private static GlassHarp threeNotes() {
        GlassHarp harp = new GlassHarp();
        harp.set(0, 9, 0);
        harp.set(1, 2, 0);
        harp.set(2, 1, 0);
        harp.note(0, 48, 1);
        harp.note(1, 100, 6);
        harp.note(2, 10, 1);
        harp.note(3, 112, 5);
        return harp;
    }

    private static void foresee() {
        GlassHarp harp = threeNotes();
        int[][] due = {{1, 1, 0, 0}, {2, 1, 0, 1}, {2, 1, 1, 1}, {3, 2, 1, 2}};
        for (int beats = 1; beats <= due.length; beats++) {
            for (int what = 0; what < 4; what++) {
                checks.same("foresee(" + beats + ", " + what + ")", harp.foresee(beats, what), due[beats - 1][what]);
            }
        }
        checks.same("150 beats", harp.foresee(150, 0), 12);
        checks.same("150 beats", harp.foresee(150, 2), 28);
        for (int what = 0; what < 4; what++) {
            int one = what;
            checks.unchanged("foresee", harp, () -> harp.foresee(150, one));
        }
        harp.play(4);
        checks.same("cracked before", harp.foresee(1, 3), 2);
        checks.same("only what comes", harp.foresee(13, 0), 1);
        checks.same("only what comes", harp.foresee(13, 1), 1);
        checks.same("only what comes", harp.foresee(13, 2), 0);
        checks.same("only what comes", harp.foresee(14, 2), 1);
        checks.same("as it is played", harp.play(13), 1);
    }

    private static void foreseeRefuses() {
        GlassHarp harp = threeNotes();
        checks.refused("0 beats", harp, ARGUMENT, () -> harp.foresee(0, 0));
        checks.refused("151 beats", harp, ARGUMENT, () -> harp.foresee(151, 0));
        checks.refused("0 beats, what 4", harp, ARGUMENT, () -> harp.foresee(0, 4));
        checks.refused("what -1", harp, INDEX, () -> harp.foresee(1, -1));
        checks.refused("what 4", harp, INDEX, () -> harp.foresee(1, 4));
        for (int far : FAR_INTS) {
            checks.refused("far beats", harp, ARGUMENT, () -> harp.foresee(far, 0));
            checks.refused("far what", harp, INDEX, () -> harp.foresee(1, far));
        }
    }

    private static void advise() {
        GlassHarp harp = new GlassHarp();
        checks.same("no glass", harp.advise(76, 1), -1);
        harp.set(0, 5, 0);
        harp.note(0, 76, 1);
        harp.setLength(1);
        checks.same("just this tone", harp.advise(76, 80), 0);
        checks.same("one off is in tune", harp.advise(75, 1), 0);
        checks.same("two off is not", harp.advise(74, 1), -1);
        checks.same("a tone it can't have", harp.advise(81, 80), -1);
        checks.unchanged("advise", harp, () -> harp.advise(76, 80));
        harp.drop(0, 99);
        checks.same("too many drops already", harp.glass(0, 3), 76);
        checks.same("in tune without", harp.advise(76, 1), -1);
        GlassHarp cracked = new GlassHarp();
        cracked.set(0, 1, 0);
        cracked.note(0, 112, 5);
        cracked.note(1, 100, 1);
        cracked.play(1);
        checks.same("a cracked glass", cracked.advise(100, 16), -1);
        cracked.set(0, 1, 0);
        checks.same("a whole glass beside it", cracked.advise(100, 15), 1);
    }

    private static void adviseOfSeveral() {
        GlassHarp harp = new GlassHarp();
        harp.set(0, 5, 0);
        harp.set(1, 5, 0);
        harp.note(0, 76, 8);
        harp.setLength(1);
        checks.same("of several the smallest number", harp.advise(76, 2), 0);
        GlassHarp other = new GlassHarp();
        other.set(0, 5, 0);
        other.set(1, 9, 0);
        other.note(0, 70, 8);
        other.note(0, 40, 8);
        other.setLength(1);
        checks.same("the first", other.advise(70, 3), 0);
        checks.same("the second", other.advise(40, 3), 1);
        GlassHarp fewer = new GlassHarp();
        fewer.set(0, 9, 0);
        fewer.set(1, 9, 0);
        fewer.pump(0, 0);
        fewer.note(0, 40, 8);
        fewer.setLength(1);
        // Row 0 has air for three of them, row 1 for four, with 3 in each beat.
        checks.same("the most notes in tune", fewer.advise(40, 4), 1);
        checks.same("as many by both", fewer.advise(40, 3), 0);
    }

    private static void adviseRefuses() {
        GlassHarp harp = threeNotes();
        checks.refused("tone -1", harp, ARGUMENT, () -> harp.advise(-1, 1));
        checks.refused("tone 121", harp, ARGUMENT, () -> harp.advise(121, 1));
        checks.refused("0 beats", harp, ARGUMENT, () -> harp.advise(0, 0));
        checks.refused("81 beats", harp, ARGUMENT, () -> harp.advise(0, 81));
        for (int far : FAR_INTS) {
            checks.refused("far tone", harp, ARGUMENT, () -> harp.advise(far, 1));
            checks.refused("far beats", harp, ARGUMENT, () -> harp.advise(0, far));
        }
        checks.same("tone 0", harp.advise(0, 80), -1);
        checks.same("tone 120", harp.advise(120, 80), -1);
    }

    private static void wants() {
        GlassHarp harp = new GlassHarp();
        harp.set(2, 9, 0);
        harp.note(0, 48, 6);
        harp.setLength(1);
        checks.same("30 are enough", harp.wants(2, 5), 0);
        checks.same("36 are needed", harp.wants(2, 6), 1);
        checks.same("480 are needed", harp.wants(2, 80), 6);
        checks.same("a row without glasses", harp.wants(0, 80), 0);
        checks.unchanged("wants", harp, () -> harp.wants(2, 80));
        GlassHarp strong = new GlassHarp();
        strong.set(0, 9, 0);
        strong.note(0, 48, 9);
        strong.setLength(1);
        checks.same("all that the pumper can bring", strong.wants(0, 80), 9);
        strong.pump(0, 0);
        checks.same("whatever is pumped now", strong.wants(0, 80), 9);
    }

    private static void wantsOfAllRows() {
        GlassHarp harp = new GlassHarp();
        harp.set(0, 1, 0);
        harp.set(1, 9, 0);
        harp.pump(0, 0);
        harp.pump(1, 0);
        harp.setLength(4);
        harp.note(0, 112, 4);
        harp.note(1, 48, 9);
        harp.play(40);
        checks.same("both rows miss", harp.count(6), 3 + 7);
        checks.same("row 0, 2 of air are left", harp.wants(0, 40), 2);
        checks.same("row 1, 3 of air are left", harp.wants(1, 40), 3);
        harp.strike(0);
        harp.note(0, 112, 9);
        harp.note(0, 112, 1);
        // With 7 or more in row 0 its glass cracks at once, and more notes are missed than with 0.
        checks.same("row 0 with a note that cracks", harp.wants(0, 8), 0);
        checks.same("row 1 as before", harp.wants(1, 8), 3);
    }

    private static void wantsRefuses() {
        GlassHarp harp = threeNotes();
        checks.refused("row -1", harp, INDEX, () -> harp.wants(-1, 1));
        checks.refused("row 4", harp, INDEX, () -> harp.wants(4, 1));
        checks.refused("row 4, 81 beats", harp, INDEX, () -> harp.wants(4, 81));
        checks.refused("0 beats", harp, ARGUMENT, () -> harp.wants(0, 0));
        checks.refused("81 beats", harp, ARGUMENT, () -> harp.wants(0, 81));
        for (int far : FAR_INTS) {
            checks.refused("far row", harp, INDEX, () -> harp.wants(far, 1));
            checks.refused("far beats", harp, ARGUMENT, () -> harp.wants(0, far));
        }
    }

    /** The edge of all loops over glasses: there is none behind the 16th. */
    private static void sixteenGlasses() {
        GlassHarp harp = new GlassHarp();
        for (int glass = 0; glass < 16; glass++) {
            harp.set(3, 9, 0);
            harp.note(1, 48, 2);
        }
        harp.note(1, 40, 2);
        harp.pump(3, 0);
        checks.same("15 have air", harp.foresee(2, 0), 15);
        checks.same("two are missed", harp.foresee(2, 2), 2);
        checks.same("the least number of beats", harp.wants(3, 1), 0);
        checks.same("air for a 16th", harp.wants(3, 2), 1);
        harp.strike(16);
        harp.note(2, 40, 1);
        harp.pump(3, 2);
        checks.same("one more and one fewer", harp.advise(40, 3), -1);
        checks.same("only one fewer", harp.advise(40, 2), -1);
        harp.pump(3, 3);
        checks.same("all play", harp.play(2), 16);
        checks.same("the last plays", harp.glass(15, 6), 1);
        checks.same("equal tones do not beat", harp.count(8), 0);
        checks.same("the last is tuned", harp.drop(15, 36), 47);
        checks.same("the last beats against all others", harp.glass(15, 7), 15);
        checks.same("pairs", harp.count(8), 15);
        checks.same("the first of 16", harp.advise(40, 1), 0);
    }

    private static void mean() {
        GlassHarp harp = threeNotes();
        checks.sameDouble("without notes", harp.mean(), 0.0);
        harp.play(1);
        checks.sameDouble("one in tune", harp.mean(), 1.0);
        harp.play(1);
        checks.sameDouble("one of two", harp.mean(), 0.5);
        harp.play(1);
        checks.sameDouble("one of three", harp.mean(), 1.0 / 3.0);
        checks.unchanged("mean", harp, () -> harp.mean());
        GlassHarp missed = new GlassHarp();
        missed.note(0, 0, 1);
        missed.play(1);
        checks.sameDouble("only missed", missed.mean(), 0.0);
    }

    private static void digest() {
        checks.same("a new object", new GlassHarp().digest(), digestOf(new int[] {
            0, 0, 0, 0, 0, 0, 0, 120, 0, 16, 30, 3, 0, 30, 3, 0, 30, 3, 0, 30, 3, 0}));
        GlassHarp harp = new GlassHarp();
        harp.set(1, 5, 59);
        harp.set(2, 1, 2);
        harp.setLength(8);
        harp.pump(3, 9);
        harp.note(0, 78, 2);
        harp.note(63, 120, 9);
        harp.play(1);
        checks.same("after some calls", harp.digest(), digestOf(new int[] {
            1, 2, 0, 2, 1, 1, 0, 33 + 31 + 33 + 39, 0, 8,
            1, 5, 56, 78, 0, 9, 1, 0,
            2, 1, 1, 112, 0, 0, 0, 0,
            33, 3, 0, 31, 3, 1, 33, 3, 1, 39, 9, 0,
            0, 78, 2, 63, 120, 9}));
        checks.same("twice", harp.digest(), harp.digest());
    }

    private static long digestOf(int[] numbers) {
        long d = 829;
        for (int x : numbers) {
            d = d * 31 + x;
        }
        return d;
    }
}
