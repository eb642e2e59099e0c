/** Promises 7 to 10: setLength, note, strike, written. */
final class ScoreTest {
    private static final Class<IllegalArgumentException> ARGUMENT = IllegalArgumentException.class;
    private static final Class<IllegalStateException> STATE = IllegalStateException.class;
    private static final Class<IndexOutOfBoundsException> INDEX = IndexOutOfBoundsException.class;
    private static final int[] FAR_INTS = {Integer.MIN_VALUE, Integer.MAX_VALUE};

    private static final Checks checks = new Checks();

    public static void main(String[] args) {
        setLength();
        lengthWhilePlaying();
        note();
        strike();
        written();
        checks.end();
    }

    private static void setLength() {
        GlassHarp harp = new GlassHarp();
        checks.same("length at first", harp.setLength(64), 16);
        checks.same("the most", harp.setLength(1), 64);
        checks.same("the least", harp.setLength(5), 1);
        checks.refused("length 0", harp, ARGUMENT, () -> harp.setLength(0));
        checks.refused("length -1", harp, ARGUMENT, () -> harp.setLength(-1));
        checks.refused("length 65", harp, ARGUMENT, () -> harp.setLength(65));
        for (int far : FAR_INTS) {
            checks.refused("far length", harp, ARGUMENT, () -> harp.setLength(far));
        }
        checks.same("refused lengths change nothing", harp.setLength(5), 5);
    }

    private static void lengthWhilePlaying() {
        GlassHarp harp = new GlassHarp();
        harp.set(0, 9, 0);
        harp.note(3, 48, 1);
        harp.setLength(4);
        checks.same("beats 0 to 9 of 4", harp.play(10), 2);
        harp.setLength(7);
        checks.same("beat 10 of 7", harp.play(1), 1);
        harp.setLength(3);
        checks.same("the note is behind the end", harp.play(50), 0);
        checks.same("such a note is not missed", harp.count(6), 0);
        checks.same("such a note stays written", harp.count(3), 1);
    }

    private static void note() {
        GlassHarp harp = new GlassHarp();
        checks.same("the least", harp.note(0, 0, 1), 1);
        checks.same("the most", harp.note(63, 120, 9), 2);
        checks.refused("beat -1", harp, ARGUMENT, () -> harp.note(-1, 0, 1));
        checks.refused("beat 64", harp, ARGUMENT, () -> harp.note(64, 0, 1));
        checks.refused("tone -1", harp, ARGUMENT, () -> harp.note(0, -1, 1));
        checks.refused("tone 121", harp, ARGUMENT, () -> harp.note(0, 121, 1));
        checks.refused("force 0", harp, ARGUMENT, () -> harp.note(0, 0, 0));
        checks.refused("force 10", harp, ARGUMENT, () -> harp.note(0, 0, 10));
        for (int far : FAR_INTS) {
            checks.refused("far beat", harp, ARGUMENT, () -> harp.note(far, 0, 1));
            checks.refused("far tone", harp, ARGUMENT, () -> harp.note(0, far, 1));
            checks.refused("far force", harp, ARGUMENT, () -> harp.note(0, 0, far));
        }
        for (int notes = 3; notes <= 32; notes++) {
            checks.same("note " + notes, harp.note(notes, 2 * notes, notes % 9 + 1), notes);
        }
        checks.refused("a 33rd note", harp, STATE, () -> harp.note(0, 0, 1));
        checks.refused("a 33rd note that is wrong", harp, ARGUMENT, () -> harp.note(0, 0, 10));
        harp.strike(31);
        checks.same("there is a place again", harp.note(1, 2, 3), 32);
        checks.same("notes", harp.count(3), 32);
    }

    private static void strike() {
        GlassHarp harp = new GlassHarp();
        checks.refused("an empty score", harp, INDEX, () -> harp.strike(0));
        for (int i = 0; i < 4; i++) {
            harp.note(i, 10 + i, 1 + i);
        }
        checks.refused("place 4", harp, INDEX, () -> harp.strike(4));
        checks.refused("place -1", harp, INDEX, () -> harp.strike(-1));
        for (int far : FAR_INTS) {
            checks.refused("far place", harp, INDEX, () -> harp.strike(far));
        }
        checks.same("strike the second", harp.strike(1), 11);
        checks.same("notes then", harp.count(3), 3);
        int[] left = {0, 2, 3};
        for (int i = 0; i < left.length; i++) {
            checks.same("beat", harp.written(i, 0), left[i]);
            checks.same("tone", harp.written(i, 1), 10 + left[i]);
            checks.same("force", harp.written(i, 2), 1 + left[i]);
        }
        checks.refused("place 3 then", harp, INDEX, () -> harp.strike(3));
        checks.same("strike the last", harp.strike(2), 13);
        checks.same("strike the first", harp.strike(0), 10);
        checks.same("strike the only one", harp.strike(0), 12);
        checks.refused("an empty score again", harp, INDEX, () -> harp.strike(0));
    }

    private static void written() {
        GlassHarp harp = new GlassHarp();
        checks.refused("an empty score", harp, INDEX, () -> harp.written(0, 0));
        harp.note(63, 120, 9);
        harp.note(7, 8, 5);
        checks.same("beat", harp.written(0, 0), 63);
        checks.same("tone", harp.written(0, 1), 120);
        checks.same("force", harp.written(0, 2), 9);
        checks.same("beat", harp.written(1, 0), 7);
        checks.same("tone", harp.written(1, 1), 8);
        checks.same("force", harp.written(1, 2), 5);
        checks.refused("place -1", harp, INDEX, () -> harp.written(-1, 0));
        checks.refused("place 2", harp, INDEX, () -> harp.written(2, 0));
        checks.refused("what -1", harp, INDEX, () -> harp.written(0, -1));
        checks.refused("what 3", harp, INDEX, () -> harp.written(0, 3));
        for (int far : FAR_INTS) {
            checks.refused("far place", harp, INDEX, () -> harp.written(far, 0));
            checks.refused("far what", harp, INDEX, () -> harp.written(0, far));
        }
    }
}
