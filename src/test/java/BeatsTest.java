/** What the terms say of a beat, step by step, and promises 11 and 12. */
final class BeatsTest {
    private static final Class<IllegalArgumentException> ARGUMENT = IllegalArgumentException.class;
    private static final Class<IllegalStateException> STATE = IllegalStateException.class;
    private static final Class<IndexOutOfBoundsException> INDEX = IndexOutOfBoundsException.class;
    private static final int MOST_GLASSES = 16;

    private static final Checks checks = new Checks();
    private static final Sentences document = new Sentences(checks);

    public static void main(String[] args) {
        document.in("What it is");
        document.test("An object is used for at most 512 calls after it has been made", BeatsTest::lastOfAllCalls);
        document.in("Terms");
        whoPlays();
        whatPlayingDoes();
        theOtherSteps();
        promise11();
        promise12();
        document.end();
    }

    private static void whoPlays() {
        document.test("Notes of this beat, in their order", BeatsTest::notesInTheirOrder);
        document.test("of the glasses that are whole", BeatsTest::crackedGlassesDoNotPlay);
        document.test("have not played in this beat yet", BeatsTest::oneNoteABeat);
        document.test("whose row has at least as much air as the force", BeatsTest::enoughAir);
        document.test("whose tone differs from that of the note by at most 6 (without the sign)",
            BeatsTest::farthestTone);
        document.test("the one plays it whose tone differs the least", BeatsTest::nearestTone);
        document.test("of several the one with the smallest number", BeatsTest::smallestNumber);
        document.test("without such a glass the note is missed", BeatsTest::missed);
    }

    private static void whatPlayingDoes() {
        document.test("The glass that plays takes as much air from its row as the force", BeatsTest::takesAir);
        document.test("its ring is 9 in this beat", BeatsTest::ringOfThePlayer);
        document.test("it loses as many drops as the force (at least 0 are left)", BeatsTest::losesDrops);
        document.test("if the force is more than its size + 3, it is cracked from now on", BeatsTest::cracks);
        document.test("with 0 drops and a ring of 0", BeatsTest::crackedGlass);
        document.test("differs from it by at most 1", BeatsTest::inTune);
        document.test("(ahead of losing drops)", BeatsTest::inTuneAheadOfLosingDrops);
    }

    private static void theOtherSteps() {
        document.test("Each bellows gets the air of its pumper (at most 60).", BeatsTest::airFills);
        document.test("1. Each bellows gets", BeatsTest::airFillsAheadOfNotes);
        document.test("its ring is 1 less (at least 0)", BeatsTest::ringsFade);
        document.test("Each glass that did not play in this beat", BeatsTest::onlyOtherRingsFade);
        document.test("In each beat that can be divided by 8 each glass loses a drop", BeatsTest::driesEachEighth);
        document.test("each glass loses a drop (at least 0)", BeatsTest::driesToNothing);
        document.test("The beat is 1 greater.", BeatsTest::beatGoesOn);
    }

    private static void promise11() {
        document.in("Promise 11");
        document.test("Returns how many notes are played in them.", BeatsTest::playedInThem);
        document.test("beats is not 1 to 200", BeatsTest::wrongBeats);
    }

    private static void promise12() {
        document.in("Promise 12");
        document.test("0 the beat, 1 glasses, 2 glasses that are cracked, 3 notes, 4 notes that were played in all,"
            + " 5 those of these that were in tune, 6 notes that were missed in all, 7 all air,"
            + " 8 pairs of glasses that beat against each other", BeatsTest::counts);
        document.test("2 glasses that are cracked", BeatsTest::allCracked);
        document.test("7 all air", BeatsTest::leastAndMostAir);
        document.test("8 pairs of glasses that beat against each other", BeatsTest::mostPairs);
        document.test("what is not 0 to 8", BeatsTest::wrongCount);
    }

    /** One glass with the tone 48, of the size 9, that no force cracks; each beat is the first. */
    private static GlassHarp harpWithAir(int air) {
        GlassHarp harp = new GlassHarp();
        harp.set(0, 9, 0);
        harp.pump(0, 0);
        harp.setLength(1);
        for (int left = 30; left > air; left -= Math.min(9, left - air)) {
            harp.note(0, 48, Math.min(9, left - air));
            harp.play(1);
            harp.strike(0);
        }
        checks.same("the air that is left", harp.row(0, 0), air);
        return harp;
    }

    /** Glasses of the size 5 with these drops, all in the row 0. */
    private static GlassHarp harpWithDrops(int... drops) {
        GlassHarp harp = new GlassHarp();
        for (int some : drops) {
            harp.set(0, 5, some);
        }
        return harp;
    }

    private static void playsAre(String what, GlassHarp harp, int... due) {
        for (int glass = 0; glass < due.length; glass++) {
            checks.same(what + ", plays of glass " + glass, harp.glass(glass, 6), due[glass]);
        }
    }

    /** A call of set, one of note, 508 of play, and then the 511th and the 512th. */
    private static void lastOfAllCalls() {
        GlassHarp harp = harpWithDrops(0);
        harp.note(15, 80, 1);
        int played = 0;
        for (int call = 3; call <= 510; call++) {
            played += harp.play(200);
        }
        checks.same("one note in each 16 beats", played, 508 * 200 / 16);
        checks.same("the 511th call", harp.count(0), 508 * 200);
        checks.same("the 512th call", harp.count(4), 508 * 200 / 16);
    }

    // ---- who plays

    private static void notesInTheirOrder() {
        GlassHarp harp = harpWithDrops(0);
        harp.note(0, 74, 2);
        harp.note(0, 80, 1);
        checks.same("the note told first is played", harp.play(1), 1);
        checks.same("it is out of tune", harp.count(5), 0);
        checks.same("it took its force", harp.row(0, 0), 31);
        harp.strike(0);
        harp.note(0, 74, 2);
        harp.play(16);
        checks.same("the order then", harp.count(5), 1);
        GlassHarp noAir = harpWithAir(9);
        noAir.set(0, 9, 0);
        noAir.note(0, 48, 8);
        noAir.note(0, 48, 2);
        checks.same("the air goes to the first", noAir.play(1), 1);
        checks.same("and none to the second", noAir.row(0, 0), 1);
    }

    private static void crackedGlassesDoNotPlay() {
        GlassHarp harp = harpWithDrops(0, 100);
        harp.note(0, 81, 9);
        harp.note(0, 81, 1);
        checks.same("once in its beat, and the other", harp.play(1), 2);
        checks.same("cracked", harp.glass(0, 4), 1);
        harp.strike(0);
        harp.strike(0);
        harp.note(1, 80, 1);
        checks.same("a whole one, farther off", harp.play(1), 1);
        playsAre("a cracked glass", harp, 1, 2);
        GlassHarp alone = harpWithDrops(0);
        alone.note(0, 80, 9);
        alone.play(1);
        checks.same("none but a cracked one", alone.play(160), 0);
        checks.same("they are missed", alone.count(6), 10);
    }

    private static void oneNoteABeat() {
        GlassHarp harp = harpWithDrops(0);
        harp.note(0, 80, 1);
        harp.note(0, 80, 1);
        checks.same("one glass", harp.play(1), 1);
        checks.same("missed", harp.count(6), 1);
        checks.same("in its next beat", harp.play(16), 1);
        checks.same("missed", harp.count(6), 2);
        harp.set(0, 5, 60);
        checks.same("two glasses", harp.play(16), 2);
        checks.same("missed", harp.count(6), 2);
        playsAre("each one note", harp, 3, 1);
        GlassHarp cracked = harpWithDrops(0);
        cracked.note(0, 80, 9);
        cracked.note(0, 80, 1);
        checks.same("a glass that cracks in it", cracked.play(1), 1);
    }

    private static void enoughAir() {
        for (int air = 0; air <= 9; air++) {
            for (int force = 1; force <= 9; force++) {
                GlassHarp harp = harpWithAir(air);
                harp.note(0, 48, force);
                String what = "force " + force + " with " + air + " of air";
                checks.same(what, harp.play(1), force <= air ? 1 : 0);
                checks.same(what + ", missed", harp.count(6), force <= air ? 0 : 1);
            }
        }
        GlassHarp harp = harpWithAir(0);
        harp.set(1, 9, 100);
        harp.note(0, 48, 9);
        checks.same("only its own row counts", harp.play(1), 1);
        playsAre("the farther one has air", harp, harp.glass(0, 6), 1);
    }

    private static void farthestTone() {
        for (int far = -9; far <= 9; far++) {
            GlassHarp harp = harpWithDrops(0);
            harp.note(0, 80 + far, 1);
            int played = far >= -6 && far <= 6 ? 1 : 0;
            checks.same("played, " + far + " off", harp.play(1), played);
            checks.same("missed, " + far + " off", harp.count(6), 1 - played);
        }
    }

    private static void nearestTone() {
        GlassHarp harp = harpWithDrops(100, 0, 40, 80);
        harp.note(0, 77, 1);
        harp.play(1);
        playsAre("77 of 75, 80, 78, 76", harp, 0, 0, 1, 0);
        GlassHarp higher = harpWithDrops(110, 30);
        higher.note(0, 77, 1);
        higher.play(1);
        playsAre("77 of 75, 79", higher, 1, 0);
        higher.note(1, 78, 1);
        higher.play(1);
        playsAre("78 of 75, 79", higher, 1, 1);
        GlassHarp last = new GlassHarp();
        for (int glass = 0; glass < MOST_GLASSES; glass++) {
            last.set(glass % 4, 5, glass == MOST_GLASSES - 1 ? 30 : 0);
        }
        last.note(1, 74, 1);
        last.note(2, 79, 1);
        last.play(3);
        checks.same("the last of 16", last.glass(MOST_GLASSES - 1, 6), 2);
        GlassHarp dry = harpWithDrops(60);
        dry.set(1, 5, 0);
        dry.pump(1, 0);
        dry.setLength(1);
        dry.note(0, 80, 8);
        checks.same("the nearest has no air in the end", dry.play(4), 4);
        playsAre("80 of 77, 80", dry, 1, 3);
    }

    private static void smallestNumber() {
        GlassHarp harp = harpWithDrops(100, 60, 20);
        harp.note(0, 78, 1);
        harp.play(1);
        playsAre("a lower one first", harp, 0, 1, 0);
        GlassHarp other = harpWithDrops(100, 20, 60);
        other.note(0, 78, 1);
        other.play(1);
        playsAre("a higher one first", other, 0, 1, 0);
        GlassHarp rows = new GlassHarp();
        for (int glass = 0; glass < MOST_GLASSES; glass++) {
            rows.set(3 - glass % 4, 5, 0);
            rows.note(glass, 80, 1);
        }
        checks.same("one in each beat", rows.play(16), 16);
        checks.same("always the first", rows.glass(0, 6), 16);
        GlassHarp all = new GlassHarp();
        for (int glass = 0; glass < MOST_GLASSES; glass++) {
            all.set(3 - glass % 4, 5, 0);
            all.note(0, 80, 1);
            checks.same("one more in a beat", all.foresee(1, 0), glass + 1);
        }
    }

    private static void missed() {
        GlassHarp none = new GlassHarp();
        none.note(0, 80, 1);
        none.note(0, 0, 9);
        checks.same("without any glass", none.play(1), 0);
        checks.same("both are missed", none.count(6), 2);
        checks.same("no air is taken", none.count(7), 132);
        GlassHarp harp = harpWithDrops(10);
        harp.note(1, 87, 3);
        checks.same("without one that is near", harp.play(2), 0);
        int[] due = {0, 5, 9, 80, 0, 0, 0, 0};
        for (int what = 0; what < due.length; what++) {
            checks.same("a glass that does not play, " + what, harp.glass(0, what), due[what]);
        }
        checks.same("nothing is played", harp.count(4), 0);
        checks.same("nothing is in tune", harp.count(5), 0);
    }

    // ---- what playing does

    private static void takesAir() {
        for (int force = 1; force <= 9; force++) {
            GlassHarp harp = new GlassHarp();
            harp.set(2, 9, 0);
            harp.note(0, 48, force);
            harp.play(1);
            for (int row = 0; row < 4; row++) {
                checks.same("air of " + row, harp.row(row, 0), row == 2 ? 33 - force : 33);
            }
            GlassHarp last = harpWithAir(force);
            last.note(0, 48, force);
            last.play(1);
            checks.same("the last of it", last.row(0, 0), 0);
        }
    }

    private static void ringOfThePlayer() {
        GlassHarp harp = harpWithDrops(0, 400);
        harp.note(0, 80, 1);
        harp.play(1);
        checks.same("at once", harp.glass(0, 5), 9);
        checks.same("not the other", harp.glass(1, 5), 0);
        harp.play(5);
        checks.same("it fades", harp.glass(0, 5), 4);
        harp.note(6, 74, 8);
        harp.play(1);
        checks.same("whatever it was, in or out of tune", harp.glass(0, 5), 9);
        checks.same("by one note each", harp.glass(0, 6), 2);
    }

    private static void losesDrops() {
        for (int force = 1; force <= 9; force++) {
            for (int drops = 0; drops <= 12; drops++) {
                GlassHarp harp = new GlassHarp();
                harp.set(0, 9, drops + 1);
                harp.set(1, 9, 500);
                harp.note(1, 48, force);
                harp.play(1);
                checks.same("drops before", harp.glass(0, 2), drops);
                harp.play(1);
                checks.same(force + " of " + drops, harp.glass(0, 2), Math.max(0, drops - force));
                checks.same("the other loses none", harp.glass(1, 2), 499);
            }
        }
    }

    private static void cracks() {
        for (int size = 1; size <= 9; size++) {
            for (int force = 1; force <= 9; force++) {
                GlassHarp harp = new GlassHarp();
                harp.set(0, size, 0);
                harp.note(0, 120 - 8 * size, force);
                String what = "force " + force + " on size " + size;
                checks.same(what + " is played", harp.play(1), 1);
                checks.same(what, harp.glass(0, 4), force > size + 3 ? 1 : 0);
                checks.same(what + ", ring", harp.glass(0, 5), force > size + 3 ? 0 : 9);
                checks.same(what + ", air", harp.row(0, 0), 33 - force);
            }
        }
        GlassHarp harp = harpWithDrops(100);
        harp.note(0, 75, 9);
        harp.play(200);
        checks.same("for good", harp.glass(0, 4), 1);
        checks.same("it plays no more", harp.glass(0, 6), 1);
        checks.refused("it is filled no more", harp, STATE, () -> harp.drop(0, 1));
    }

    private static void crackedGlass() {
        GlassHarp harp = harpWithDrops(100);
        harp.note(1, 75, 8);
        harp.note(2, 76, 9);
        harp.play(2);
        checks.same("it rings", harp.glass(0, 5), 9);
        checks.same("it has drops", harp.glass(0, 2), 91);
        checks.same("the note that cracks it is played", harp.play(1), 1);
        checks.same("and in tune", harp.count(5), 2);
        int[] due = {0, 5, 0, 80, 1, 0, 2, 0};
        for (int beats = 0; beats < 10; beats++) {
            for (int what = 0; what < due.length; what++) {
                checks.same("a cracked glass, " + what, harp.glass(0, what), due[what]);
            }
            harp.play(1);
        }
        GlassHarp pair = harpWithDrops(0, 0, 20);
        pair.note(0, 80, 1);
        pair.note(0, 80, 1);
        pair.note(0, 79, 9);
        checks.same("all play", pair.play(1), 3);
        checks.same("it beats against none", pair.count(8), 0);
    }

    private static void inTune() {
        for (int far = -6; far <= 6; far++) {
            GlassHarp harp = harpWithDrops(105);
            harp.note(0, 75 + far, 1);
            checks.same("played, " + far + " off", harp.play(1), 1);
            checks.same("in tune, " + far + " off", harp.count(5), far >= -1 && far <= 1 ? 1 : 0);
        }
    }

    /** Of four drops the glass with the tone 111 loses all, and then has the tone 112. */
    private static void inTuneAheadOfLosingDrops() {
        int[][] due = {{109, 0}, {110, 1}, {111, 1}, {112, 1}, {113, 0}};
        for (int[] one : due) {
            GlassHarp harp = new GlassHarp();
            harp.set(0, 1, 4);
            harp.note(0, one[0], 4);
            harp.play(1);
            checks.same("the note " + one[0] + " at 111", harp.count(5), one[1]);
            checks.same("the tone then", harp.glass(0, 3), 112);
        }
        // The drop that the beat takes from all comes behind it, too: 20 drops make 79, 19 make 80.
        GlassHarp dried = harpWithDrops(20);
        dried.note(0, 78, 1);
        dried.play(1);
        checks.same("the note 78 at 79", dried.count(5), 1);
    }

    // ---- the other steps of a beat

    private static void airFills() {
        GlassHarp harp = new GlassHarp();
        int[] pumps = {9, 5, 0, 1};
        for (int row = 0; row < pumps.length; row++) {
            harp.pump(row, pumps[row]);
        }
        for (int beats = 1; beats <= 35; beats++) {
            harp.play(1);
            for (int row = 0; row < pumps.length; row++) {
                int due = Math.min(60, 30 + beats * pumps[row]);
                checks.same("row " + row + " after " + beats, harp.row(row, 0), due);
            }
        }
        harp.play(200);
        checks.same("none without a pump, ever", harp.row(2, 0), 30);
        checks.same("at most 60, ever", harp.row(0, 0), 60);
    }

    private static void airFillsAheadOfNotes() {
        GlassHarp harp = harpWithAir(0);
        harp.note(0, 48, 5);
        harp.pump(0, 4);
        checks.same("4 are too little for 5", harp.play(1), 0);
        harp.pump(0, 1);
        checks.same("one more is enough", harp.play(1), 1);
        GlassHarp full = new GlassHarp();
        full.set(0, 9, 0);
        full.setLength(64);
        full.note(20, 48, 9);
        full.play(20);
        checks.same("full", full.row(0, 0), 60);
        full.play(1);
        checks.same("9 of 60, not of 63", full.row(0, 0), 51);
        full.play(3);
        checks.same("full again", full.row(0, 0), 60);
    }

    private static void ringsFade() {
        GlassHarp harp = harpWithDrops(0);
        harp.note(0, 80, 1);
        harp.note(3, 80, 1);
        int[] due = {9, 8, 7, 9, 8, 7, 6, 5, 4, 3, 2, 1, 0, 0, 0, 0, 9};
        for (int beat = 0; beat < due.length; beat++) {
            harp.play(1);
            checks.same("after the beat " + beat, harp.glass(0, 5), due[beat]);
        }
    }

    private static void onlyOtherRingsFade() {
        GlassHarp harp = harpWithDrops(0, 200);
        harp.setLength(1);
        harp.note(0, 80, 1);
        harp.note(0, 70, 1);
        checks.same("both play", harp.play(1), 2);
        harp.strike(1);
        for (int ring = 8; ring >= 0; ring--) {
            harp.play(1);
            checks.same("the one that plays", harp.glass(0, 5), 9);
            checks.same("the one that does not", harp.glass(1, 5), ring);
        }
    }

    private static void driesEachEighth() {
        GlassHarp harp = harpWithDrops(100);
        harp.set(3, 1, 100);
        harp.set(1, 5, 30);
        harp.note(8, 78, 2);
        for (int beat = 0; beat <= 40; beat++) {
            harp.play(1);
            int dried = beat / 8 + 1;
            checks.same("after the beat " + beat, harp.glass(0, 2), 100 - dried);
            checks.same("in all rows", harp.glass(1, 2), 100 - dried);
            int lost = beat < 8 ? 0 : beat < 24 ? 2 : beat < 40 ? 4 : 6;
            checks.same("one that plays, too", harp.glass(2, 2), 30 - dried - lost);
        }
        GlassHarp many = harpWithDrops(100);
        many.play(200);
        checks.same("the beats 0 to 192", many.glass(0, 2), 75);
        many.play(1);
        checks.same("the beat 200", many.glass(0, 2), 74);
    }

    private static void driesToNothing() {
        GlassHarp harp = harpWithDrops(0, 1, 2, 3);
        int[][] due = {{0, 0, 1, 2}, {0, 0, 0, 1}, {0, 0, 0, 0}, {0, 0, 0, 0}};
        for (int eighth = 0; eighth < due.length; eighth++) {
            harp.play(1);
            for (int glass = 0; glass < 4; glass++) {
                checks.same(glass + " drops", harp.glass(glass, 2), due[eighth][glass]);
            }
            harp.play(7);
        }
        GlassHarp cracked = harpWithDrops(3);
        cracked.note(8, 80, 9);
        cracked.play(17);
        checks.same("a cracked one", cracked.glass(0, 2), 0);
        GlassHarp rubbed = harpWithDrops(3);
        rubbed.note(0, 80, 3);
        rubbed.play(1);
        checks.same("one that has just lost all", rubbed.glass(0, 2), 0);
    }

    private static void beatGoesOn() {
        GlassHarp harp = harpWithDrops(0);
        int beat = 0;
        for (int beats : new int[] {1, 1, 2, 7, 200, 1, 200}) {
            harp.play(beats);
            beat += beats;
            checks.same("the beat", harp.count(0), beat);
        }
    }

    // ---- promise 11

    private static void playedInThem() {
        GlassHarp harp = harpWithDrops(0);
        checks.same("an empty score", harp.play(16), 0);
        harp.note(0, 80, 1);
        harp.note(1, 80, 1);
        harp.note(1, 80, 1);
        harp.note(1, 20, 1);
        checks.same("in the first beat", harp.play(1), 1);
        checks.same("in the second, not in all", harp.play(1), 1);
        checks.same("in the third", harp.play(1), 0);
        checks.same("in a round", harp.play(16), 2);
        checks.same("in all", harp.count(4), 4);
    }

    private static void wrongBeats() {
        GlassHarp harp = harpWithDrops(0);
        harp.note(0, 80, 1);
        for (int wrong : new int[] {0, 201, -1, Integer.MIN_VALUE, Integer.MAX_VALUE}) {
            checks.refused("beats " + wrong, harp, ARGUMENT, () -> harp.play(wrong));
        }
        checks.same("the beat is as it was", harp.count(0), 0);
        checks.same("1 beat", harp.play(1), 1);
        checks.same("the beat then", harp.count(0), 1);
        checks.same("200 beats", harp.play(200), 12);
        checks.same("the beat then", harp.count(0), 201);
    }

    // ---- promise 12

    private static void counts() {
        GlassHarp harp = new GlassHarp();
        harp.set(0, 9, 0);
        harp.set(1, 1, 0);
        harp.note(0, 48, 2);
        harp.note(0, 108, 5);
        harp.note(0, 10, 1);
        harp.note(1, 50, 3);
        harp.note(1, 49, 3);
        harp.play(2);
        int[] due = {2, 2, 1, 5, 3, 1, 2, (33 - 2 + 3 - 3) + (33 - 5 + 3) + 36 + 36, 0};
        for (int what = 0; what < due.length; what++) {
            checks.same("count(" + what + ")", harp.count(what), due[what]);
        }
        checks.same("in all", harp.play(16), 2);
        int[] then = {18, 2, 1, 5, 5, 2, 5};
        for (int what = 0; what < then.length; what++) {
            checks.same("count(" + what + ") a round later", harp.count(what), then[what]);
        }
    }

    private static void allCracked() {
        GlassHarp harp = new GlassHarp();
        for (int glass = 0; glass < MOST_GLASSES; glass++) {
            checks.same("none yet", harp.count(2), 0);
            harp.set(glass % 4, 1, 0);
        }
        for (int glass = 0; glass < MOST_GLASSES; glass++) {
            harp.note(glass, 112, 5);
        }
        for (int glass = 0; glass < MOST_GLASSES; glass++) {
            harp.play(1);
            checks.same("one more", harp.count(2), glass + 1);
        }
        checks.same("they are glasses still", harp.count(1), MOST_GLASSES);
    }

    private static void leastAndMostAir() {
        GlassHarp harp = new GlassHarp();
        for (int row = 0; row < 4; row++) {
            harp.set(row, 9, 0);
            harp.pump(row, 0);
            harp.note(0, 48, 6);
        }
        harp.setLength(1);
        checks.same("all play", harp.play(5), 20);
        checks.same("none", harp.count(7), 0);
        checks.same("none plays", harp.play(5), 0);
        checks.same("none", harp.count(7), 0);
        GlassHarp full = new GlassHarp();
        checks.same("at first", full.count(7), 120);
        full.play(9);
        checks.same("before the most", full.count(7), 228);
        full.play(2);
        checks.same("the most", full.count(7), 240);
    }

    private static void mostPairs() {
        GlassHarp harp = new GlassHarp();
        checks.same("without glasses", harp.count(8), 0);
        for (int glass = 0; glass < MOST_GLASSES; glass++) {
            harp.set(glass % 4, 5, 0);
            harp.note(0, 80, 1);
        }
        checks.same("all play", harp.play(1), MOST_GLASSES);
        checks.same("with equal tones", harp.count(8), 0);
        int due = 0;
        for (int glass = 0; glass < MOST_GLASSES / 2; glass++) {
            harp.drop(MOST_GLASSES - 1 - glass, 20);
            due = (glass + 1) * (MOST_GLASSES - 1 - glass);
            checks.same("one more is lower", harp.count(8), due);
        }
        checks.same("8 against 8", due, 64);
    }

    private static void wrongCount() {
        GlassHarp harp = harpWithDrops(0);
        for (int wrong : new int[] {-1, 9, Integer.MIN_VALUE, Integer.MAX_VALUE}) {
            checks.refused("what " + wrong, harp, INDEX, () -> harp.count(wrong));
        }
        checks.allowed("what 0", harp, () -> harp.count(0));
        checks.allowed("what 8", harp, () -> harp.count(8));
    }
}
