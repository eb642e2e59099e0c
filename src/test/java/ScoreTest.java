/** The score: what the terms say of it, and promises 7 to 10. */
final class ScoreTest {
    private static final Class<IllegalArgumentException> ARGUMENT = IllegalArgumentException.class;
    private static final Class<IllegalStateException> STATE = IllegalStateException.class;
    private static final Class<IndexOutOfBoundsException> INDEX = IndexOutOfBoundsException.class;
    private static final int MOST_NOTES = 32;
    private static final int MOST_LENGTH = 64;

    private static final Checks checks = new Checks();
    private static final Sentences document = new Sentences(checks);

    public static void main(String[] args) {
        terms();
        promise7();
        promise8();
        promise9();
        promise10();
        document.end();
    }

    private static void terms() {
        document.in("Terms");
        document.test("It has at most 32 notes, kept in the order of their telling", ScoreTest::allNotes);
        document.test("each is for a beat, 0 to 63, a tone, 0 to 120, and a force, 1 to 9", ScoreTest::edgesOfANote);
        document.test("in the beat b come the notes for the beat b by the remainder of the length of the score,"
            + " 1 to 64", ScoreTest::eachLength);
        document.test("It is played round and round", ScoreTest::roundAndRound);
        document.test("(16, at first)", ScoreTest::lengthAtFirst);
        document.test("notes for later beats than that do not come", ScoreTest::notesBehindTheEnd);
    }

    private static void promise7() {
        document.in("Promise 7");
        document.test("the length of the score from now on", ScoreTest::lengthFromNowOn);
        document.test("Returns the length before.", ScoreTest::lengthBefore);
        document.test("length is not 1 to 64", ScoreTest::wrongLength);
    }

    private static void promise8() {
        document.in("Promise 8");
        document.test("Writes a note, behind all others.", ScoreTest::noteBehindAllOthers);
        document.test("Returns how many notes there are.", ScoreTest::allNotes);
        document.test("beat is not 0 to 63", ScoreTest::noteBeat);
        document.test("tone is not 0 to 120", ScoreTest::noteTone);
        document.test("force is not 1 to 9", ScoreTest::noteForce);
        document.test("there are 32", ScoreTest::noteWhenFull);
    }

    private static void promise9() {
        document.in("Promise 9");
        document.test("those behind it come up", ScoreTest::strikeComesUp);
        document.test("its place, from 0", ScoreTest::strikeFirstAndLast);
        document.test("Returns its tone.", ScoreTest::strikeTellsTheTone);
        document.test("there is no such place", ScoreTest::strikeNoPlace);
    }

    private static void promise10() {
        document.in("Promise 10");
        document.test("0 its beat, 1 its tone, 2 its force", ScoreTest::factsOfANote);
        document.test("there is no such place", ScoreTest::factOfNoPlace);
        document.test("what is not 0 to 2", ScoreTest::noFactOfANote);
    }

    /** The note i is for the beat 2 * i, the tone 100 - i and the force i % 9 + 1. */
    private static GlassHarp harpOf(int notes) {
        GlassHarp harp = new GlassHarp();
        for (int i = 0; i < notes; i++) {
            harp.note(2 * i, 100 - i, i % 9 + 1);
        }
        return harp;
    }

    private static void isNote(GlassHarp harp, int index, int i) {
        checks.same("beat at " + index, harp.written(index, 0), 2 * i);
        checks.same("tone at " + index, harp.written(index, 1), 100 - i);
        checks.same("force at " + index, harp.written(index, 2), i % 9 + 1);
    }

    /** One glass that plays a note with the tone 48, for this beat. */
    private static GlassHarp harpWithNoteFor(int beat, int length) {
        GlassHarp harp = new GlassHarp();
        harp.set(0, 9, 0);
        harp.note(beat, 48, 1);
        harp.setLength(length);
        return harp;
    }

    // ---- the terms

    private static void allNotes() {
        GlassHarp harp = new GlassHarp();
        for (int i = 0; i < MOST_NOTES; i++) {
            checks.same("notes then", harp.note(2 * (MOST_NOTES - 1 - i), 3 * i, i % 9 + 1), i + 1);
            checks.same("notes told", harp.count(3), i + 1);
        }
        checks.refused("a 33rd", harp, STATE, () -> harp.note(0, 0, 1));
        checks.same("notes", harp.count(3), MOST_NOTES);
        for (int i = 0; i < MOST_NOTES; i++) {
            checks.same("beat", harp.written(i, 0), 2 * (MOST_NOTES - 1 - i));
            checks.same("tone", harp.written(i, 1), 3 * i);
            checks.same("force", harp.written(i, 2), i % 9 + 1);
        }
    }

    private static void edgesOfANote() {
        GlassHarp harp = new GlassHarp();
        harp.note(0, 0, 1);
        harp.note(63, 120, 9);
        int[][] due = {{0, 0, 1}, {63, 120, 9}};
        for (int index = 0; index < due.length; index++) {
            for (int what = 0; what < 3; what++) {
                checks.same("written(" + index + ", " + what + ")", harp.written(index, what), due[index][what]);
            }
        }
    }

    private static void eachLength() {
        for (int length = 1; length <= MOST_LENGTH; length++) {
            GlassHarp first = harpWithNoteFor(0, length);
            GlassHarp last = harpWithNoteFor(length - 1, length);
            for (int beat = 0; beat < 2 * MOST_LENGTH + 2; beat++) {
                int remainder = beat % length;
                String what = "in the beat " + beat + " of the length " + length;
                checks.same("its first " + what, first.play(1), remainder == 0 ? 1 : 0);
                checks.same("its last " + what, last.play(1), remainder == length - 1 ? 1 : 0);
            }
        }
    }

    private static void roundAndRound() {
        GlassHarp harp = harpWithNoteFor(2, 3);
        for (int round = 0; round < 500; round++) {
            checks.same("66 or 67 in 200 beats", harp.play(200), round % 3 == 2 ? 67 : round % 3 == 1 ? 67 : 66);
        }
        checks.same("the beat", harp.count(0), 100000);
        checks.same("never missed", harp.count(6), 0);
    }

    private static void lengthAtFirst() {
        GlassHarp harp = new GlassHarp();
        harp.set(0, 9, 0);
        harp.note(15, 48, 1);
        harp.note(16, 48, 1);
        checks.same("the beats 0 to 14", harp.play(15), 0);
        checks.same("the beat 15", harp.play(1), 1);
        checks.same("the beats 16 to 30", harp.play(15), 0);
        checks.same("the beat 31", harp.play(1), 1);
        checks.same("none is missed", harp.count(6), 0);
        checks.same("it is 16", harp.setLength(1), 16);
    }

    private static void notesBehindTheEnd() {
        for (int length = 1; length < MOST_LENGTH; length++) {
            GlassHarp harp = harpWithNoteFor(length, length);
            harp.note(MOST_LENGTH - 1, 48, 1);
            checks.same("not with the length " + length, harp.play(2 * MOST_LENGTH), 0);
            checks.same("not missed", harp.count(6), 0);
            checks.same("still written", harp.count(3), 2);
            int beat = harp.count(0);
            harp.setLength(length + 1);
            int due = beat % (length + 1) == length ? 1 : 0;
            checks.same("with one more, if it is its beat", harp.foresee(1, 0), due);
            checks.isTrue("with one more, in a round", harp.foresee(length + 1, 0) >= 1);
        }
    }

    // ---- promise 7

    /** The remainder is that of the beat itself: a new length does not begin a new round. */
    private static void lengthFromNowOn() {
        GlassHarp harp = harpWithNoteFor(3, 4);
        checks.same("the beats 3 and 7", harp.play(10), 2);
        harp.setLength(7);
        checks.same("the beat 10 of 7", harp.play(1), 1);
        harp.setLength(3);
        checks.same("of 3", harp.play(9), 0);
        harp.setLength(17);
        checks.same("the beat 20 of 17", harp.play(1), 1);
    }

    private static void lengthBefore() {
        GlassHarp harp = new GlassHarp();
        checks.same("at first", harp.setLength(64), 16);
        checks.same("the most", harp.setLength(1), 64);
        checks.same("the least", harp.setLength(5), 1);
        checks.same("the same once more", harp.setLength(5), 5);
        checks.same("and once more", harp.setLength(5), 5);
    }

    private static void wrongLength() {
        GlassHarp harp = new GlassHarp();
        for (int wrong : new int[] {0, 65, -1, Integer.MIN_VALUE, Integer.MAX_VALUE}) {
            checks.refused("length " + wrong, harp, ARGUMENT, () -> harp.setLength(wrong));
        }
        checks.same("it is as it was", harp.setLength(1), 16);
        checks.same("length 1", harp.setLength(64), 1);
        checks.same("length 64", harp.setLength(16), 64);
    }

    // ---- promise 8

    private static void noteBehindAllOthers() {
        GlassHarp harp = harpOf(3);
        harp.note(0, 5, 1);
        checks.same("the fourth", harp.written(3, 1), 5);
        harp.strike(1);
        harp.note(0, 6, 1);
        checks.same("the fourth is the third now", harp.written(2, 1), 5);
        checks.same("behind it", harp.written(3, 1), 6);
        isNote(harp, 0, 0);
        isNote(harp, 1, 2);
    }

    private static void noteBeat() {
        GlassHarp harp = new GlassHarp();
        for (int wrong : new int[] {-1, 64, Integer.MIN_VALUE, Integer.MAX_VALUE}) {
            checks.refused("beat " + wrong, harp, ARGUMENT, () -> harp.note(wrong, 0, 1));
        }
        checks.same("beat 0", harp.note(0, 0, 1), 1);
        checks.same("beat 63", harp.note(63, 0, 1), 2);
        harp.setLength(1);
        checks.same("beat 63, whatever the length is", harp.note(63, 0, 1), 3);
    }

    private static void noteTone() {
        GlassHarp harp = new GlassHarp();
        for (int wrong : new int[] {-1, 121, Integer.MIN_VALUE, Integer.MAX_VALUE}) {
            checks.refused("tone " + wrong, harp, ARGUMENT, () -> harp.note(0, wrong, 1));
        }
        checks.same("tone 0", harp.note(0, 0, 1), 1);
        checks.same("tone 120", harp.note(0, 120, 1), 2);
    }

    private static void noteForce() {
        GlassHarp harp = new GlassHarp();
        for (int wrong : new int[] {0, 10, -1, Integer.MIN_VALUE, Integer.MAX_VALUE}) {
            checks.refused("force " + wrong, harp, ARGUMENT, () -> harp.note(0, 0, wrong));
        }
        checks.same("force 1", harp.note(0, 0, 1), 1);
        checks.same("force 9", harp.note(0, 0, 9), 2);
    }

    private static void noteWhenFull() {
        GlassHarp harp = harpOf(MOST_NOTES - 1);
        checks.same("the 32nd", harp.note(62, 69, 5), MOST_NOTES);
        checks.refused("a 33rd", harp, STATE, () -> harp.note(0, 0, 1));
        checks.refused("a 33rd with a wrong beat", harp, ARGUMENT, () -> harp.note(64, 0, 1));
        checks.refused("a 33rd with a wrong tone", harp, ARGUMENT, () -> harp.note(0, 121, 1));
        checks.refused("a 33rd with a wrong force", harp, ARGUMENT, () -> harp.note(0, 0, 0));
        isNote(harp, MOST_NOTES - 1, MOST_NOTES - 1);
        harp.strike(0);
        checks.same("there is a place again", harp.note(1, 2, 3), MOST_NOTES);
        checks.refused("and then none", harp, STATE, () -> harp.note(0, 0, 1));
    }

    // ---- promise 9

    private static void strikeComesUp() {
        GlassHarp harp = harpOf(MOST_NOTES);
        harp.strike(11);
        checks.same("notes then", harp.count(3), MOST_NOTES - 1);
        for (int index = 0; index < MOST_NOTES - 1; index++) {
            isNote(harp, index, index < 11 ? index : index + 1);
        }
        checks.refused("the last place is free", harp, INDEX, () -> harp.written(MOST_NOTES - 1, 0));
        GlassHarp played = new GlassHarp();
        played.set(0, 5, 0);
        played.note(0, 74, 1);
        played.note(0, 80, 1);
        played.strike(0);
        played.note(0, 74, 1);
        played.play(1);
        checks.same("the one that came up is played first", played.count(5), 1);
    }

    private static void strikeFirstAndLast() {
        GlassHarp harp = harpOf(MOST_NOTES);
        checks.same("the last of 32", harp.strike(MOST_NOTES - 1), 69);
        isNote(harp, MOST_NOTES - 2, MOST_NOTES - 2);
        checks.same("the first", harp.strike(0), 100);
        isNote(harp, 0, 1);
        checks.same("notes then", harp.count(3), MOST_NOTES - 2);
        GlassHarp one = harpOf(1);
        checks.same("the only one", one.strike(0), 100);
        checks.same("none is left", one.count(3), 0);
    }

    private static void strikeTellsTheTone() {
        GlassHarp harp = new GlassHarp();
        harp.note(0, 0, 1);
        harp.note(63, 120, 9);
        harp.note(7, 8, 5);
        checks.same("the most", harp.strike(1), 120);
        checks.same("the one that came up", harp.strike(1), 8);
        checks.same("the least", harp.strike(0), 0);
    }

    private static void strikeNoPlace() {
        GlassHarp none = new GlassHarp();
        checks.refused("none yet", none, INDEX, () -> none.strike(0));
        GlassHarp harp = harpOf(4);
        for (int wrong : new int[] {-1, 4, 32, Integer.MIN_VALUE, Integer.MAX_VALUE}) {
            checks.refused("place " + wrong, harp, INDEX, () -> harp.strike(wrong));
        }
        checks.same("the last place", harp.strike(3), 97);
        checks.refused("it is there no more", harp, INDEX, () -> harp.strike(3));
        for (int left = 3; left > 0; left--) {
            harp.strike(0);
        }
        checks.refused("none any more", harp, INDEX, () -> harp.strike(0));
        GlassHarp full = harpOf(MOST_NOTES);
        checks.refused("place 32 of 32", full, INDEX, () -> full.strike(MOST_NOTES));
        checks.same("place 31 of 32", full.strike(MOST_NOTES - 1), 69);
    }

    // ---- promise 10

    private static void factsOfANote() {
        GlassHarp harp = new GlassHarp();
        harp.note(12, 34, 5);
        harp.note(7, 8, 9);
        int[][] due = {{12, 34, 5}, {7, 8, 9}};
        for (int index = 0; index < due.length; index++) {
            for (int what = 0; what < 3; what++) {
                checks.same("written(" + index + ", " + what + ")", harp.written(index, what), due[index][what]);
            }
        }
    }

    private static void factOfNoPlace() {
        GlassHarp none = new GlassHarp();
        checks.refused("none yet", none, INDEX, () -> none.written(0, 0));
        GlassHarp harp = harpOf(4);
        for (int wrong : new int[] {-1, 4, 32, Integer.MIN_VALUE, Integer.MAX_VALUE}) {
            for (int what = 0; what <= 3; what++) {
                int one = what;
                checks.refused("place " + wrong, harp, INDEX, () -> harp.written(wrong, one));
            }
        }
        isNote(harp, 0, 0);
        isNote(harp, 3, 3);
        GlassHarp full = harpOf(MOST_NOTES);
        checks.refused("place 32 of 32", full, INDEX, () -> full.written(MOST_NOTES, 0));
        isNote(full, MOST_NOTES - 1, MOST_NOTES - 1);
    }

    private static void noFactOfANote() {
        GlassHarp harp = harpOf(4);
        for (int wrong : new int[] {-1, 3, Integer.MIN_VALUE, Integer.MAX_VALUE}) {
            checks.refused("what " + wrong, harp, INDEX, () -> harp.written(1, wrong));
        }
        checks.same("what 0", harp.written(1, 0), 2);
        checks.same("what 2", harp.written(1, 2), 2);
    }
}
