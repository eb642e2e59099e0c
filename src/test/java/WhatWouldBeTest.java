import java.math.BigInteger;

/** Promises 13 to 18: needs, foresee, advise, wants, mean, digest. */
final class WhatWouldBeTest {
    private static final Class<IllegalArgumentException> ARGUMENT = IllegalArgumentException.class;
    private static final Class<IndexOutOfBoundsException> INDEX = IndexOutOfBoundsException.class;
    private static final int MOST_GLASSES = 16;
    private static final int MOST_NOTES = 32;

    private static final Checks checks = new Checks();
    private static final Sentences document = new Sentences(checks);

    public static void main(String[] args) {
        promise13();
        promise14();
        promise15();
        promise16();
        promise17();
        promise18();
        document.end();
    }

    private static void promise13() {
        document.in("Promise 13");
        document.test("Returns the fewest drops with which its tone is this one", WhatWouldBeTest::needsFewest);
        document.test("(whether it is cracked or not)", WhatWouldBeTest::needsOfACrackedGlass);
        document.test("-1 if this is less than 0", WhatWouldBeTest::needsLessThanNothing);
        document.test("or more than 100 * its size", WhatWouldBeTest::needsMoreThanFull);
        document.test("there is no such glass", WhatWouldBeTest::needsOfNoGlass);
        document.test("tone is not 0 to 120", WhatWouldBeTest::needsWrongTone);
    }

    private static void promise14() {
        document.in("Promise 14");
        document.test("0 notes that are played in them, 1 those of these that are in tune,"
            + " 2 notes that are missed in them, 3 glasses that are cracked then", WhatWouldBeTest::foreseen);
        document.test("3 glasses that are cracked then", WhatWouldBeTest::foreseenCracked);
        document.test("Returns this, if nothing is done", WhatWouldBeTest::foreseenAsPlayed);
        document.test("(nothing is changed)", WhatWouldBeTest::foreseeChangesNothing);
        document.test("how many, 1 to 150", WhatWouldBeTest::foreseenBeats);
        document.test("beats is not 1 to 150", WhatWouldBeTest::foreseeWrongBeats);
        document.test("what is not 0 to 3", WhatWouldBeTest::foreseeWrongWhat);
    }

    private static void promise15() {
        document.in("Promise 15");
        document.test("with the fewest drops for it", WhatWouldBeTest::adviseFewestDrops);
        document.test("if it is whole", WhatWouldBeTest::adviseWholeGlass);
        document.test("and can have it", WhatWouldBeTest::advisePossibleTone);
        document.test("so that the most notes are in tune", WhatWouldBeTest::adviseMostInTune);
        document.test("in so many beats", WhatWouldBeTest::adviseBeats);
        document.test("of several the one with the smallest number", WhatWouldBeTest::adviseSmallestNumber);
        document.test("Returns this glass", WhatWouldBeTest::adviseLastGlass);
        document.test("-1 if no more are by any", WhatWouldBeTest::adviseNone);
        document.test("(nothing is changed)", WhatWouldBeTest::adviseChangesNothing);
        document.test("tone is not 0 to 120", WhatWouldBeTest::adviseWrongTone);
        document.test("beats is not 1 to 80", WhatWouldBeTest::adviseWrongBeats);
    }

    private static void promise16() {
        document.in("Promise 16");
        document.test("Returns the least that its pumper would have to bring in each beat, 0 to 9",
            WhatWouldBeTest::wantsEachPump);
        document.test("how many, 1 to 80", WhatWouldBeTest::wantsBeats);
        document.test("(of all rows)", WhatWouldBeTest::wantsOfAllRows);
        document.test("so that no more notes", WhatWouldBeTest::wantsNoMoreMissed);
        document.test("than if it were 9", WhatWouldBeTest::wantsAsWithNine);
        document.test("(nothing is changed)", WhatWouldBeTest::wantsChangesNothing);
        document.test("row is not 0 to 3", WhatWouldBeTest::wantsWrongRow);
        document.test("beats is not 1 to 80", WhatWouldBeTest::wantsWrongBeats);
    }

    private static void promise17() {
        document.in("Promise 17");
        document.test("Returns notes in tune, divided by notes that were played or missed, in all",
            WhatWouldBeTest::meanInAll);
        document.test("0 if there are none.", WhatWouldBeTest::meanOfNone);
    }

    private static void promise18() {
        document.in("Promise 18");
        document.test("A number d starts with 829", WhatWouldBeTest::digestOfANewObject);
        document.test("which wraps around as a 64-bit integer", WhatWouldBeTest::digestWraps);
        document.test("what count() tells, in its order; the length of the score; for each glass what glass() tells,"
            + " in its order; for each row what row() tells, in its order; for each note what written() tells,"
            + " in its order.", WhatWouldBeTest::digestInItsOrder);
    }

    /** In the beats 0 to 3: one in tune, one out of tune that cracks, one for none, one that cracks. */
    private static GlassHarp fourNotes() {
        GlassHarp harp = new GlassHarp();
        harp.set(0, 9, 0);
        harp.set(1, 2, 0);
        harp.set(2, 1, 0);
        harp.note(0, 48, 1);
        harp.note(1, 100, 6);
        harp.note(2, 10, 1);
        harp.note(3, 112, 5);
        return harp;
    }

    /** All glasses and all notes that there can be, in the beat 21. */
    private static GlassHarp fullHarp() {
        GlassHarp harp = new GlassHarp();
        for (int glass = 0; glass < MOST_GLASSES; glass++) {
            harp.set(glass % 4, glass % 9 + 1, 17 * glass % 100);
        }
        for (int note = 0; note < MOST_NOTES; note++) {
            harp.note(note / 2, 112 - 2 * note, note % 7 + 1);
        }
        harp.pump(1, 8);
        harp.setLength(19);
        harp.play(21);
        checks.isTrue("something is cracked and something beats", harp.count(2) > 0 && harp.count(8) > 0);
        return harp;
    }

    /** In the beat 1, one glass of the size 5 with these drops, and a note for it in each beat. */
    private static GlassHarp harpWithDropsAndTone(int drops, int tone) {
        GlassHarp harp = new GlassHarp();
        harp.play(1);
        harp.set(0, 5, drops);
        harp.setLength(1);
        harp.note(0, tone, 1);
        return harp;
    }

    /**
     * In the beat 8 two glasses for the note 41 in each eighth beat, with the force 3, if they were
     * tuned to 40: the first has 29 of air in all, enough for 9 of them, the second more and more.
     */
    private static GlassHarp harpShortOfAir() {
        GlassHarp harp = new GlassHarp();
        harp.set(0, 9, 0);
        harp.set(1, 9, 0);
        harp.pump(0, 0);
        harp.setLength(8);
        harp.note(0, 48, 1);
        harp.play(8);
        harp.strike(0);
        harp.note(7, 41, 3);
        checks.same("the air of the first", harp.row(0, 0), 29);
        return harp;
    }

    /** The call changes nothing that can be asked for, now or in a later beat. */
    private static void changesNothing(String what, Runnable[] calls, GlassHarp harp) {
        GlassHarp other = fullHarp();
        for (Runnable call : calls) {
            checks.allowed(what, harp, call);
        }
        checks.same(what + ", as it is", harp.digest(), other.digest());
        checks.same(what + ", played", harp.play(60), other.play(60));
        checks.same(what + ", as it is then", harp.digest(), other.digest());
    }

    // ---- promise 13

    private static void needsFewest() {
        for (int size = 1; size <= 9; size++) {
            GlassHarp harp = new GlassHarp();
            int empty = 120 - 8 * size;
            harp.set(0, size, 50);
            for (int lower = 0; lower <= 25; lower++) {
                int fewest = harp.needs(0, empty - lower);
                checks.same(lower + " lower", fewest, 4 * size * lower);
                checks.same("it has the tone", harp.glass(harp.set(0, size, fewest), 3), empty - lower);
                if (lower > 0) {
                    harp = new GlassHarp();
                    harp.set(0, size, fewest - 1);
                    checks.same("not with one drop fewer", harp.glass(0, 3), empty - lower + 1);
                }
            }
            GlassHarp asked = harp;
            checks.allowed("needs", asked, () -> asked.needs(0, empty));
        }
    }

    private static void needsOfACrackedGlass() {
        GlassHarp harp = new GlassHarp();
        harp.set(0, 1, 0);
        harp.note(0, 112, 5);
        checks.same("whole", harp.needs(0, 100), 48);
        harp.play(1);
        checks.same("it is cracked", harp.glass(0, 4), 1);
        checks.same("cracked", harp.needs(0, 100), 48);
        checks.same("cracked, above its tones", harp.needs(0, 113), -1);
    }

    private static void needsLessThanNothing() {
        for (int size = 1; size <= 9; size++) {
            GlassHarp harp = new GlassHarp();
            harp.set(0, size, 50);
            checks.same("the empty glass", harp.needs(0, 120 - 8 * size), 0);
            checks.same("one higher", harp.needs(0, 121 - 8 * size), -1);
            checks.same("the highest tone", harp.needs(0, 120), -1);
        }
    }

    private static void needsMoreThanFull() {
        for (int size = 1; size <= 9; size++) {
            GlassHarp harp = new GlassHarp();
            harp.set(0, size, 50);
            checks.same("the full glass", harp.needs(0, 95 - 8 * size), 100 * size);
            checks.same("one lower", harp.needs(0, 94 - 8 * size), -1);
            checks.same("the lowest tone", harp.needs(0, 0), -1);
        }
    }

    private static void needsOfNoGlass() {
        GlassHarp none = new GlassHarp();
        checks.refused("none yet", none, INDEX, () -> none.needs(0, 80));
        checks.refused("none yet, tone 121", none, INDEX, () -> none.needs(0, 121));
        GlassHarp harp = fourNotes();
        for (int wrong : new int[] {-1, 3, Integer.MIN_VALUE, Integer.MAX_VALUE}) {
            checks.refused("glass " + wrong, harp, INDEX, () -> harp.needs(wrong, 80));
            checks.refused("glass " + wrong + ", tone 121", harp, INDEX, () -> harp.needs(wrong, 121));
            checks.refused("glass " + wrong + ", tone -1", harp, INDEX, () -> harp.needs(wrong, -1));
        }
        checks.same("the first", harp.needs(0, 47), 36);
        checks.same("the last", harp.needs(2, 111), 4);
        GlassHarp full = fullHarp();
        checks.same("the last of 16", full.needs(15, 63), 28);
        checks.refused("glass 16 of 16", full, INDEX, () -> full.needs(16, 63));
    }

    private static void needsWrongTone() {
        GlassHarp harp = fourNotes();
        for (int wrong : new int[] {-1, 121, Integer.MIN_VALUE, Integer.MAX_VALUE}) {
            checks.refused("tone " + wrong, harp, ARGUMENT, () -> harp.needs(0, wrong));
        }
        checks.allowed("tone 0", harp, () -> harp.needs(0, 0));
        checks.allowed("tone 120", harp, () -> harp.needs(0, 120));
    }

    // ---- promise 14

    private static void foreseen() {
        GlassHarp harp = fourNotes();
        int[][] due = {{1, 1, 0, 0}, {2, 1, 0, 1}, {2, 1, 1, 1}, {3, 2, 1, 2}};
        for (int beats = 1; beats <= due.length; beats++) {
            for (int what = 0; what < 4; what++) {
                checks.same("foresee(" + beats + ", " + what + ")", harp.foresee(beats, what), due[beats - 1][what]);
            }
        }
        harp.play(4);
        checks.same("only what comes", harp.foresee(13, 0), 1);
        checks.same("only what comes", harp.foresee(13, 1), 1);
        checks.same("only what comes", harp.foresee(13, 2), 0);
        checks.same("only what comes", harp.foresee(14, 2), 1);
        GlassHarp none = new GlassHarp();
        for (int what = 0; what < 4; what++) {
            checks.same("without glasses and notes", none.foresee(150, what), 0);
        }
        none.note(0, 80, 1);
        checks.same("without glasses all are missed", none.foresee(150, 2), 10);
    }

    private static void foreseenCracked() {
        GlassHarp harp = fourNotes();
        checks.same("none yet", harp.foresee(1, 3), 0);
        checks.same("one in the second beat", harp.foresee(2, 3), 1);
        harp.play(2);
        checks.same("that one still, before another", harp.foresee(1, 3), 1);
        checks.same("that one, and another", harp.foresee(2, 3), 2);
        harp.play(2);
        checks.same("both were before", harp.foresee(1, 3), 2);
        checks.same("both were before", harp.foresee(150, 3), 2);
    }

    private static void foreseenAsPlayed() {
        for (int beats : new int[] {1, 2, 7, 8, 9, 19, 64, 149, 150}) {
            GlassHarp harp = fullHarp();
            int[] before = {harp.count(4), harp.count(5), harp.count(6)};
            int[] told = new int[4];
            for (int what = 0; what < 4; what++) {
                told[what] = harp.foresee(beats, what);
            }
            checks.same("played in " + beats, harp.play(beats), told[0]);
            checks.same("played in " + beats, harp.count(4) - before[0], told[0]);
            checks.same("in tune in " + beats, harp.count(5) - before[1], told[1]);
            checks.same("missed in " + beats, harp.count(6) - before[2], told[2]);
            checks.same("cracked after " + beats, harp.count(2), told[3]);
        }
    }

    private static void foreseeChangesNothing() {
        GlassHarp harp = fullHarp();
        changesNothing("foresee", new Runnable[] {
            () -> harp.foresee(1, 0), () -> harp.foresee(150, 0), () -> harp.foresee(150, 1),
            () -> harp.foresee(150, 2), () -> harp.foresee(150, 3), () -> harp.foresee(8, 3)}, harp);
    }

    private static void foreseenBeats() {
        GlassHarp harp = new GlassHarp();
        harp.set(0, 9, 0);
        harp.setLength(64);
        harp.note(0, 48, 1);
        harp.note(21, 10, 1);
        harp.note(1, 10, 1);
        checks.same("the first beat", harp.foresee(1, 0), 1);
        checks.same("not the second", harp.foresee(1, 2), 0);
        checks.same("the second", harp.foresee(2, 2), 1);
        // For the beats 1, 65, 129 and 21, 85, 149, of which the last is the 150th.
        checks.same("149 beats", harp.foresee(149, 2), 5);
        checks.same("150 beats", harp.foresee(150, 2), 6);
    }

    private static void foreseeWrongBeats() {
        GlassHarp harp = fourNotes();
        for (int wrong : new int[] {0, 151, -1, Integer.MIN_VALUE, Integer.MAX_VALUE}) {
            for (int what = -1; what <= 4; what++) {
                int one = what;
                checks.refused("beats " + wrong + ", what " + what, harp, ARGUMENT, () -> harp.foresee(wrong, one));
            }
        }
        checks.same("1 beat", harp.foresee(1, 0), 1);
        checks.same("150 beats", harp.foresee(150, 0), 10 + 2);
    }

    private static void foreseeWrongWhat() {
        GlassHarp harp = fourNotes();
        for (int wrong : new int[] {-1, 4, Integer.MIN_VALUE, Integer.MAX_VALUE}) {
            checks.refused("what " + wrong, harp, INDEX, () -> harp.foresee(1, wrong));
            checks.refused("what " + wrong, harp, INDEX, () -> harp.foresee(150, wrong));
        }
        checks.same("what 0", harp.foresee(1, 0), 1);
        checks.same("what 3", harp.foresee(1, 3), 0);
    }

    // ---- promise 15

    /** The fewest drops for 75 are 100 for the size 5, and one drop fewer makes it 76. */
    private static void adviseFewestDrops() {
        GlassHarp lower = harpWithDropsAndTone(101, 74);
        checks.same("in tune twice, with 101 and 100", lower.foresee(3, 1), 2);
        checks.same("with 100 only once", lower.advise(75, 3), -1);
        GlassHarp higher = harpWithDropsAndTone(119, 77);
        checks.same("the tone is 75 already", higher.glass(0, 3), 75);
        checks.same("not in tune with 119 to 117", higher.foresee(3, 1), 0);
        checks.same("in tune with 99 and 98", higher.advise(75, 3), 0);
        checks.same("not with 100", higher.advise(75, 1), -1);
    }

    private static void adviseWholeGlass() {
        GlassHarp harp = new GlassHarp();
        harp.set(0, 1, 0);
        harp.note(0, 112, 5);
        harp.note(1, 100, 1);
        checks.same("whole", harp.advise(100, 2), -1);
        harp.strike(0);
        checks.same("whole, and not to be cracked", harp.advise(100, 2), 0);
        harp.note(0, 112, 5);
        harp.play(1);
        checks.same("cracked", harp.advise(100, 16), -1);
        harp.set(0, 1, 0);
        checks.same("a whole one beside it", harp.advise(100, 15), 1);
    }

    private static void advisePossibleTone() {
        for (int size = 1; size <= 9; size++) {
            int empty = 120 - 8 * size;
            GlassHarp low = new GlassHarp();
            low.set(0, size, 0);
            low.note(0, empty - 26, 1);
            checks.same("the full glass", low.advise(empty - 25, 1), 0);
            checks.same("one lower", low.advise(empty - 26, 1), -1);
            GlassHarp high = new GlassHarp();
            high.set(0, size, 100 * size);
            high.note(0, empty + 1, 1);
            checks.same("the empty glass", high.advise(empty, 1), 0);
            checks.same("one higher", high.advise(empty + 1, 1), -1);
        }
    }

    private static void adviseMostInTune() {
        GlassHarp harp = new GlassHarp();
        harp.set(0, 9, 0);
        harp.set(1, 9, 0);
        harp.pump(0, 0);
        harp.note(0, 40, 8);
        harp.setLength(1);
        // The row 0 has air for three of them, the row 1 for four, with 3 in each beat.
        checks.same("as many by both", harp.advise(40, 3), 0);
        checks.same("more by the second", harp.advise(40, 4), 1);
        harp.pump(0, 3);
        harp.pump(1, 0);
        checks.same("more by the first", harp.advise(40, 4), 0);
        GlassHarp off = new GlassHarp();
        off.set(0, 5, 0);
        off.note(0, 76, 1);
        checks.same("one off is in tune", off.advise(75, 1), 0);
        checks.same("one off is in tune", off.advise(77, 1), 0);
        checks.same("two off is not", off.advise(74, 1), -1);
        checks.same("two off is not", off.advise(78, 1), -1);
    }

    private static void adviseBeats() {
        GlassHarp harp = harpShortOfAir();
        checks.same("the first beat, without a note", harp.advise(40, 1), -1);
        checks.same("7 beats", harp.advise(40, 7), -1);
        checks.same("8 beats", harp.advise(40, 8), 0);
        checks.same("79 beats, 9 notes by both", harp.advise(40, 79), 0);
        checks.same("80 beats, a 10th by the second", harp.advise(40, 80), 1);
        harp.play(7);
        checks.same("the first beat, with a note", harp.advise(40, 1), 0);
    }

    private static void adviseSmallestNumber() {
        GlassHarp harp = new GlassHarp();
        for (int glass = 0; glass < MOST_GLASSES; glass++) {
            harp.set(3 - glass % 4, 5, 0);
        }
        harp.note(0, 70, 2);
        checks.same("the first of 16", harp.advise(70, 80), 0);
        harp.note(1, 80, 9);
        harp.play(2);
        checks.same("the first is cracked", harp.glass(0, 4), 1);
        checks.same("the second of 16", harp.advise(70, 15), 1);
        GlassHarp later = new GlassHarp();
        later.set(0, 1, 0);
        later.set(0, 9, 0);
        later.set(1, 9, 0);
        later.set(2, 9, 0);
        later.pump(0, 0);
        later.note(0, 40, 8);
        later.setLength(1);
        checks.same("the third and the fourth are the best", later.advise(40, 4), 2);
    }

    private static void adviseLastGlass() {
        GlassHarp harp = new GlassHarp();
        for (int glass = 0; glass < MOST_GLASSES; glass++) {
            harp.set(glass % 4, glass == MOST_GLASSES - 1 ? 9 : 1, 0);
        }
        harp.note(0, 30, 1);
        harp.note(0, 100, 1);
        checks.same("the last of 16", harp.advise(30, 1), 15);
        checks.same("the first", harp.advise(100, 1), 0);
    }

    private static void adviseNone() {
        GlassHarp none = new GlassHarp();
        none.note(0, 80, 1);
        checks.same("without glasses", none.advise(80, 80), -1);
        GlassHarp harp = new GlassHarp();
        harp.set(0, 5, 0);
        checks.same("without notes", harp.advise(80, 80), -1);
        harp.note(0, 80, 1);
        checks.same("as many as before", harp.advise(80, 1), -1);
        checks.same("as many as before, one lower", harp.advise(79, 1), -1);
        checks.same("fewer than before", harp.advise(70, 80), -1);
        harp.set(0, 5, 100);
        harp.note(0, 79, 1);
        checks.same("one more than before", harp.advise(79, 1), 1);
    }

    private static void adviseChangesNothing() {
        GlassHarp harp = fullHarp();
        int[] found = new int[121];
        for (int tone = 0; tone <= 120; tone++) {
            found[tone] = harp.advise(tone, 40);
        }
        changesNothing("advise", new Runnable[] {
            () -> harp.advise(0, 1), () -> harp.advise(120, 80), () -> harp.advise(60, 80),
            () -> harp.advise(70, 80), () -> harp.advise(80, 80), () -> harp.advise(90, 80)}, harp);
        GlassHarp same = fullHarp();
        for (int tone = 120; tone >= 0; tone--) {
            checks.same("asked in another order", same.advise(tone, 40), found[tone]);
        }
    }

    private static void adviseWrongTone() {
        GlassHarp harp = fourNotes();
        for (int wrong : new int[] {-1, 121, Integer.MIN_VALUE, Integer.MAX_VALUE}) {
            checks.refused("tone " + wrong, harp, ARGUMENT, () -> harp.advise(wrong, 1));
        }
        checks.same("tone 0", harp.advise(0, 1), -1);
        checks.same("tone 120", harp.advise(120, 1), -1);
    }

    private static void adviseWrongBeats() {
        GlassHarp harp = fourNotes();
        for (int wrong : new int[] {0, 81, -1, Integer.MIN_VALUE, Integer.MAX_VALUE}) {
            checks.refused("beats " + wrong, harp, ARGUMENT, () -> harp.advise(100, wrong));
        }
        checks.same("1 beat", harp.advise(100, 1), -1);
        checks.allowed("80 beats", harp, () -> harp.advise(100, 80));
    }

    // ---- promise 16

    private static void wantsEachPump() {
        for (int i = 0; i < 4 * 9; i++) {
            int row = i / 9;
            int force = i % 9 + 1;
            GlassHarp harp = new GlassHarp();
            harp.set(row, 9, 0);
            harp.pump(row, 0);
            harp.setLength(1);
            harp.note(0, 48, 6);
            harp.play(5);
            checks.same("no air is left", harp.row(row, 0), 0);
            harp.strike(0);
            checks.same("without notes", harp.wants(row, 80), 0);
            harp.note(0, 48, force);
            for (int beats : new int[] {1, 2, 79, 80}) {
                checks.same("in " + beats + " beats of " + force, harp.wants(row, beats), force);
            }
            harp.pump(row, 9);
            checks.same("whatever is pumped now", harp.wants(row, 80), force);
        }
    }

    private static void wantsBeats() {
        GlassHarp harp = new GlassHarp();
        harp.set(0, 9, 0);
        harp.setLength(1);
        harp.note(0, 48, 6);
        checks.same("30 are enough for 5 beats", harp.wants(0, 5), 0);
        checks.same("36 are needed for 6", harp.wants(0, 6), 1);
        GlassHarp air = new GlassHarp();
        air.set(0, 9, 0);
        air.pump(0, 0);
        air.setLength(8);
        air.note(0, 48, 1);
        air.play(8);
        air.strike(0);
        air.note(7, 48, 3);
        checks.same("29 are enough for 79 beats", air.wants(0, 79), 0);
        checks.same("30 are needed for 80", air.wants(0, 80), 1);
        checks.same("1 beat", air.wants(0, 1), 0);
    }

    private static void wantsOfAllRows() {
        GlassHarp harp = new GlassHarp();
        harp.set(0, 1, 0);
        harp.set(1, 9, 0);
        harp.pump(0, 0);
        harp.pump(1, 0);
        harp.setLength(4);
        harp.note(0, 112, 4);
        harp.note(1, 48, 9);
        harp.play(40);
        checks.same("both rows miss", harp.count(6), 3 + 7);
        checks.same("row 0, 2 of air are left", harp.wants(0, 40), 2);
        checks.same("row 1, 3 of air are left", harp.wants(1, 40), 3);
        checks.same("row 2, that misses none", harp.wants(2, 40), 0);
        GlassHarp helped = new GlassHarp();
        helped.set(0, 9, 0);
        helped.set(3, 9, 36);
        helped.setLength(1);
        helped.note(0, 48, 3);
        checks.same("another row plays without it", helped.wants(0, 80), 0);
        helped.pump(3, 0);
        checks.same("and for 10 beats without a pump", helped.wants(0, 20), 0);
        checks.same("but for no more", helped.wants(0, 21), 1);
    }

    /** How many are missed with each pump from 0 to 9, and the least that is wanted. */
    private static void missedWith(GlassHarp harp, int beats, int least, int... due) {
        for (int pump = 0; pump < due.length; pump++) {
            harp.pump(0, pump);
            checks.same("missed with " + pump, harp.foresee(beats, 2), due[pump]);
            checks.same("whatever is pumped now, " + pump, harp.wants(0, beats), least);
        }
    }

    /** Air that lets a strong note be played may be wanting for two weak ones. */
    private static void wantsNoMoreMissed() {
        GlassHarp harp = new GlassHarp();
        harp.set(0, 8, 0);
        harp.set(0, 8, 0);
        harp.setLength(1);
        harp.note(0, 56, 9);
        harp.note(0, 56, 2);
        harp.note(0, 56, 2);
        missedWith(harp, 4, 0, 4, 6, 4, 5, 4, 4, 4, 4, 4, 4);
        GlassHarp other = new GlassHarp();
        other.set(0, 2, 0);
        other.set(0, 8, 0);
        other.setLength(1);
        other.note(0, 56, 8);
        other.note(0, 56, 3);
        other.note(0, 104, 4);
        missedWith(other, 8, 7, 18, 17, 15, 13, 12, 10, 10, 8, 9, 8);
    }

    private static void wantsAsWithNine() {
        GlassHarp harp = new GlassHarp();
        harp.set(0, 9, 0);
        harp.set(0, 9, 0);
        harp.setLength(1);
        harp.note(0, 48, 9);
        harp.note(0, 48, 9);
        harp.play(80);
        checks.same("half of them are missed with 9, too", harp.wants(0, 80), 9);
        harp.strike(0);
        harp.strike(0);
        harp.note(0, 10, 9);
        checks.same("all are missed with 9, too", harp.wants(0, 80), 0);
        GlassHarp none = new GlassHarp();
        none.note(0, 80, 1);
        checks.same("without glasses", none.wants(3, 80), 0);
        fewerMissedThanWithNine();
    }

    /** 2 of air are left, and with 7 more the strong note cracks the glass in the first beat. */
    private static void fewerMissedThanWithNine() {
        GlassHarp harp = new GlassHarp();
        harp.set(0, 1, 0);
        harp.pump(0, 0);
        harp.setLength(1);
        harp.note(0, 112, 4);
        harp.play(8);
        checks.same("the air that is left", harp.row(0, 0), 2);
        harp.strike(0);
        harp.note(0, 112, 9);
        harp.note(0, 112, 1);
        harp.setLength(4);
        missedWith(harp, 8, 0, 2, 2, 2, 2, 2, 2, 2, 3, 3, 3);
    }

    private static void wantsChangesNothing() {
        GlassHarp harp = fullHarp();
        changesNothing("wants", new Runnable[] {
            () -> harp.wants(0, 1), () -> harp.wants(0, 80), () -> harp.wants(1, 80),
            () -> harp.wants(2, 80), () -> harp.wants(3, 80)}, harp);
    }

    private static void wantsWrongRow() {
        GlassHarp harp = fourNotes();
        for (int wrong : new int[] {-1, 4, Integer.MIN_VALUE, Integer.MAX_VALUE}) {
            checks.refused("row " + wrong, harp, INDEX, () -> harp.wants(wrong, 1));
            checks.refused("row " + wrong + ", 0 beats", harp, INDEX, () -> harp.wants(wrong, 0));
            checks.refused("row " + wrong + ", 81 beats", harp, INDEX, () -> harp.wants(wrong, 81));
        }
        checks.same("row 0", harp.wants(0, 1), 0);
        checks.same("row 3", harp.wants(3, 1), 0);
    }

    private static void wantsWrongBeats() {
        GlassHarp harp = fourNotes();
        for (int wrong : new int[] {0, 81, -1, Integer.MIN_VALUE, Integer.MAX_VALUE}) {
            checks.refused("beats " + wrong, harp, ARGUMENT, () -> harp.wants(0, wrong));
        }
        checks.same("1 beat", harp.wants(0, 1), 0);
        checks.same("80 beats", harp.wants(0, 80), 0);
    }

    // ---- promise 17

    private static void meanInAll() {
        GlassHarp harp = fourNotes();
        double[] due = {1.0, 1.0 / 2.0, 1.0 / 3.0, 2.0 / 4.0};
        for (double one : due) {
            harp.play(1);
            checks.sameDouble("after one more note", harp.mean(), one);
        }
        harp.play(16);
        checks.sameDouble("in a round more, one in tune and three missed", harp.mean(), 3.0 / 8.0);
        harp.foresee(150, 0);
        checks.sameDouble("what is foreseen is not played", harp.mean(), 3.0 / 8.0);
        GlassHarp all = new GlassHarp();
        all.set(0, 9, 0);
        all.note(0, 48, 1);
        all.play(200);
        checks.sameDouble("all in tune", all.mean(), 1.0);
        GlassHarp missed = new GlassHarp();
        missed.note(0, 0, 1);
        missed.play(1);
        checks.sameDouble("only missed", missed.mean(), 0.0);
    }

    private static void meanOfNone() {
        GlassHarp harp = new GlassHarp();
        checks.sameDouble("a new object", harp.mean(), 0.0);
        harp.set(0, 9, 0);
        harp.note(1, 48, 1);
        checks.sameDouble("none yet", harp.mean(), 0.0);
        harp.play(1);
        checks.sameDouble("none in the first beat", harp.mean(), 0.0);
        harp.play(1);
        checks.sameDouble("one", harp.mean(), 1.0);
    }

    // ---- promise 18

    private static BigInteger unwrapped(int[] numbers) {
        BigInteger d = BigInteger.valueOf(829);
        for (int x : numbers) {
            d = d.multiply(BigInteger.valueOf(31)).add(BigInteger.valueOf(x));
        }
        return d;
    }

    private static void digestOfANewObject() {
        int[] told = {
            0, 0, 0, 0, 0, 0, 0, 120, 0, 16, 30, 3, 0, 30, 3, 0, 30, 3, 0, 30, 3, 0};
        checks.same("a new object", new GlassHarp().digest(), unwrapped(told).longValue());
        checks.same("another new object", new GlassHarp().digest(), unwrapped(told).longValue());
    }

    private static void digestWraps() {
        boolean below = false;
        boolean above = false;
        for (int size = 1; size <= 9; size++) {
            GlassHarp harp = new GlassHarp();
            harp.set(0, size, 0);
            int[] told = {
                0, 1, 0, 0, 0, 0, 0, 120, 0, 16, 0, size, 0, 120 - 8 * size, 0, 0, 0, 0,
                30, 3, 1, 30, 3, 0, 30, 3, 0, 30, 3, 0};
            checks.isTrue("too great for 64 bits", unwrapped(told).bitLength() > 64);
            checks.same("its last 64 bits", harp.digest(), unwrapped(told).longValue());
            below |= harp.digest() < 0;
            above |= harp.digest() > 0;
        }
        checks.isTrue("less than 0, and greater than 0", below && above);
    }

    private static void digestInItsOrder() {
        GlassHarp harp = new GlassHarp();
        harp.set(1, 5, 59);
        harp.set(2, 1, 2);
        harp.setLength(8);
        harp.pump(3, 9);
        harp.note(0, 78, 2);
        harp.note(63, 120, 9);
        harp.play(1);
        checks.same("after some calls", harp.digest(), unwrapped(new int[] {
            1, 2, 0, 2, 1, 1, 0, 33 + 31 + 33 + 39, 0, 8,
            1, 5, 56, 78, 0, 9, 1, 0,
            2, 1, 1, 112, 0, 0, 0, 0,
            33, 3, 0, 31, 3, 1, 33, 3, 1, 39, 9, 0,
            0, 78, 2, 63, 120, 9}).longValue());
        checks.same("twice", harp.digest(), harp.digest());
        GlassHarp full = fullHarp();
        checks.same("all glasses and notes", full.digest(), unwrapped(allThatIsTold(full, 19)).longValue());
    }

    private static int[] allThatIsTold(GlassHarp harp, int length) {
        int ofGlasses = 8 * harp.count(1);
        int ofNotes = 3 * harp.count(3);
        int[] told = new int[9 + 1 + ofGlasses + 3 * 4 + ofNotes];
        int next = 0;
        for (int what = 0; what < 9; what++) {
            told[next++] = harp.count(what);
        }
        told[next++] = length;
        for (int i = 0; i < ofGlasses; i++) {
            told[next++] = harp.glass(i / 8, i % 8);
        }
        for (int i = 0; i < 3 * 4; i++) {
            told[next++] = harp.row(i / 3, i % 3);
        }
        for (int i = 0; i < ofNotes; i++) {
            told[next++] = harp.written(i / 3, i % 3);
        }
        return told;
    }
}
