/** Glasses and bellows: what the terms say of them, and promises 1 to 6. */
final class GlassesTest {
    private static final Class<IllegalArgumentException> ARGUMENT = IllegalArgumentException.class;
    private static final Class<IllegalStateException> STATE = IllegalStateException.class;
    private static final Class<IndexOutOfBoundsException> INDEX = IndexOutOfBoundsException.class;
    private static final int MOST_GLASSES = 16;

    private static final Checks checks = new Checks();
    private static final Sentences document = new Sentences(checks);

    public static void main(String[] args) {
        terms();
        promise1();
        promise2();
        promise3();
        promise4();
        promise5();
        promise6();
        document.end();
    }

    private static void terms() {
        document.in("Terms");
        document.test("There are at most 16, numbered from 0 in the order of their setting",
            GlassesTest::sixteenGlasses);
        document.test("each has a size, 1 to 9", GlassesTest::eachSize);
        document.test("drops, 0 to 100 * its size", GlassesTest::emptyAndFull);
        document.test("belongs to a row, 0 to 3", GlassesTest::eachRow);
        document.test("has a ring, 0 to 9 (0, at first)", GlassesTest::ringAtFirst);
        document.test("Its tone is 120 - 8 * the size - drops / (4 * the size), at least 0.", GlassesTest::tones);
        document.test("air, 0 to 60 (30, at first)", GlassesTest::airAtFirst);
        document.test("who brings 0 to 9 of air in each beat (3, at first)", GlassesTest::pumpAtFirst);
        document.test("if both ring (1 or more)", GlassesTest::ringsThatBeat);
        document.test("their tones differ by 1 or 2", GlassesTest::tonesThatBeat);
    }

    private static void promise1() {
        document.in("Promise 1");
        document.test("Creates an orchestra without glasses and notes, in the beat 0.", GlassesTest::newObject);
    }

    private static void promise2() {
        document.in("Promise 2");
        document.test("Returns its number.", GlassesTest::sixteenGlasses);
        document.test("row is not 0 to 3", GlassesTest::setRow);
        document.test("size is not 1 to 9", GlassesTest::setSize);
        document.test("drops is not 0 to 100 * size", GlassesTest::setDrops);
        document.test("there are 16", GlassesTest::setWhenFull);
    }

    private static void promise3() {
        document.in("Promise 3");
        document.test("how many more; less than 0: fewer", GlassesTest::dropMoreAndFewer);
        document.test("Returns its tone then.", GlassesTest::dropTellsTheTone);
        document.test("there is no such glass", GlassesTest::dropIntoNoGlass);
        document.test("drops is 0", GlassesTest::dropNothing);
        document.test("not -200 to 200", GlassesTest::dropTooManyAtOnce);
        document.test("it is cracked", GlassesTest::dropIntoACrackedGlass);
        document.test("there would be less than 0", GlassesTest::dropBelowNothing);
        document.test("more than 100 * its size", GlassesTest::dropOverTheBrim);
    }

    private static void promise4() {
        document.in("Promise 4");
        document.test("how much air its pumper brings in each beat from now on", GlassesTest::pumpFromNowOn);
        document.test("Returns how much this was.", GlassesTest::pumpBefore);
        document.test("row is not 0 to 3", GlassesTest::pumpRow);
        document.test("pump is not 0 to 9", GlassesTest::pumpMuch);
    }

    private static void promise5() {
        document.in("Promise 5");
        document.test("0 its row, 1 its size, 2 its drops, 3 its tone, 4 1 if it is cracked, else 0, 5 its ring,"
            + " 6 how often it played in all, 7 glasses against which it beats", GlassesTest::factsOfAGlass);
        document.test("there is no such glass", GlassesTest::factOfNoGlass);
        document.test("what is not 0 to 7", GlassesTest::noFactOfAGlass);
    }

    private static void promise6() {
        document.in("Promise 6");
        document.test("0 its air, 1 what its pumper brings, 2 glasses that belong to it", GlassesTest::factsOfARow);
        document.test("row is not 0 to 3", GlassesTest::factOfNoRow);
        document.test("what is not 0 to 2", GlassesTest::noFactOfARow);
    }

    private static GlassHarp harpOf(int glasses) {
        GlassHarp harp = new GlassHarp();
        for (int glass = 0; glass < glasses; glass++) {
            harp.set(glass % 4, glass % 9 + 1, 7 * glass);
        }
        return harp;
    }

    /** Glass 0 is cracked, of the size 1. */
    private static GlassHarp crackedHarp() {
        GlassHarp harp = new GlassHarp();
        harp.set(0, 1, 50);
        harp.note(0, 100, 5);
        harp.play(1);
        checks.same("cracked", harp.glass(0, 4), 1);
        return harp;
    }

    /** Two glasses of the size 5 that ring, with so many drops after the beat 0. */
    private static GlassHarp ringingPair(int drops, int otherDrops) {
        GlassHarp harp = new GlassHarp();
        harp.set(0, 5, 0);
        harp.set(1, 5, 0);
        harp.note(0, 80, 1);
        harp.note(0, 80, 1);
        checks.same("both play", harp.play(1), 2);
        harp.strike(0);
        harp.strike(0);
        harp.drop(0, drops);
        harp.drop(1, otherDrops);
        return harp;
    }

    private static void beats(String what, GlassHarp harp, int each, int pairs) {
        checks.same(what + ", the first", harp.glass(0, 7), each);
        checks.same(what + ", the second", harp.glass(1, 7), each);
        checks.same(what + ", pairs", harp.count(8), pairs);
    }

    // ---- the terms

    private static void sixteenGlasses() {
        GlassHarp harp = new GlassHarp();
        for (int number = 0; number < MOST_GLASSES; number++) {
            checks.same("its number", harp.set(number % 4, number % 9 + 1, 7 * number), number);
            checks.same("glasses then", harp.count(1), number + 1);
        }
        checks.refused("a 17th glass", harp, STATE, () -> harp.set(0, 1, 0));
        checks.same("glasses", harp.count(1), MOST_GLASSES);
        for (int number = 0; number < MOST_GLASSES; number++) {
            checks.same("row of " + number, harp.glass(number, 0), number % 4);
            checks.same("size of " + number, harp.glass(number, 1), number % 9 + 1);
            checks.same("drops of " + number, harp.glass(number, 2), 7 * number);
        }
    }

    private static void eachSize() {
        GlassHarp harp = new GlassHarp();
        for (int size = 1; size <= 9; size++) {
            checks.same("the size", harp.glass(harp.set(0, size, 0), 1), size);
        }
    }

    private static void emptyAndFull() {
        for (int size = 1; size <= 9; size++) {
            GlassHarp harp = new GlassHarp();
            checks.same("empty", harp.glass(harp.set(0, size, 0), 2), 0);
            checks.same("one drop", harp.glass(harp.set(0, size, 1), 2), 1);
            checks.same("full but for one", harp.glass(harp.set(0, size, 100 * size - 1), 2), 100 * size - 1);
            checks.same("full", harp.glass(harp.set(0, size, 100 * size), 2), 100 * size);
        }
    }

    private static void eachRow() {
        GlassHarp harp = new GlassHarp();
        for (int row = 3; row >= 0; row--) {
            checks.same("the row", harp.glass(harp.set(row, 1, 0), 0), row);
            checks.same("it belongs to it", harp.row(row, 2), 1);
        }
    }

    private static void ringAtFirst() {
        GlassHarp harp = new GlassHarp();
        harp.set(0, 5, 0);
        checks.same("at first", harp.glass(0, 5), 0);
        harp.note(0, 80, 1);
        harp.play(1);
        checks.same("the most", harp.glass(0, 5), 9);
        harp.foresee(20, 0);
        checks.same("one that is set later", harp.glass(harp.set(0, 5, 0), 5), 0);
        harp.strike(0);
        harp.play(9);
        checks.same("the least", harp.glass(0, 5), 0);
        harp.play(1);
        checks.same("none below it", harp.glass(0, 5), 0);
    }

    /** No glass comes to the tone 0: the lowest is 23, of the size 9 when it is full. */
    private static void tones() {
        for (int size = 1; size <= 9; size++) {
            for (int lower = 0; lower <= 25; lower++) {
                GlassHarp harp = new GlassHarp();
                int drops = 4 * size * lower;
                int glass = harp.set(0, size, drops);
                checks.same("at the step", harp.glass(glass, 3), 120 - 8 * size - lower);
                if (lower < 25) {
                    glass = harp.set(0, size, drops + 4 * size - 1);
                    checks.same("a drop before the next", harp.glass(glass, 3), 120 - 8 * size - lower);
                }
            }
        }
        GlassHarp harp = new GlassHarp();
        checks.same("the highest", harp.glass(harp.set(0, 1, 0), 3), 112);
        checks.same("the lowest", harp.glass(harp.set(0, 9, 900), 3), 23);
    }

    private static void airAtFirst() {
        GlassHarp harp = new GlassHarp();
        for (int row = 0; row < 4; row++) {
            checks.same("at first", harp.row(row, 0), 30);
        }
        harp.set(0, 9, 0);
        harp.pump(0, 0);
        harp.pump(1, 9);
        harp.note(0, 48, 6);
        harp.setLength(1);
        harp.play(5);
        checks.same("the least", harp.row(0, 0), 0);
        checks.same("the most", harp.row(1, 0), 60);
        harp.play(1);
        checks.same("none below it", harp.row(0, 0), 0);
        checks.same("none above it", harp.row(1, 0), 60);
    }

    private static void pumpAtFirst() {
        GlassHarp harp = new GlassHarp();
        for (int row = 0; row < 4; row++) {
            checks.same("at first", harp.row(row, 1), 3);
        }
        harp.play(1);
        for (int row = 0; row < 4; row++) {
            checks.same("3 in a beat", harp.row(row, 0), 33);
        }
        for (int pump = 0; pump <= 9; pump++) {
            harp = new GlassHarp();
            harp.pump(2, pump);
            harp.play(1);
            checks.same(pump + " in a beat", harp.row(2, 0), 30 + pump);
        }
    }

    private static void ringsThatBeat() {
        // The drop that the beat 8 takes does not change the tones, 80 and 79.
        GlassHarp harp = ringingPair(19, 39);
        beats("a ring of 9", harp, 1, 1);
        checks.same("8 beats more", harp.play(8), 0);
        checks.same("a ring of 1", harp.glass(0, 5), 1);
        beats("a ring of 1", harp, 1, 1);
        harp.play(1);
        checks.same("a ring of 0", harp.glass(0, 5), 0);
        beats("a ring of 0", harp, 0, 0);
        GlassHarp other = ringingPair(19, 39);
        checks.same("one that never rang", other.set(2, 5, 39), 2);
        checks.same("it does not beat", other.glass(2, 7), 0);
        beats("nor do the others against it", other, 1, 1);
    }

    private static void tonesThatBeat() {
        for (int apart = 0; apart <= 4; apart++) {
            int each = apart == 1 || apart == 2 ? 1 : 0;
            beats(apart + " lower", ringingPair(100, 100 + 20 * apart), each, each);
            beats(apart + " higher", ringingPair(100 + 20 * apart, 100), each, each);
        }
        GlassHarp harp = ringingPair(20, 40);
        harp.set(2, 5, 60);
        harp.note(1, 77, 1);
        harp.note(1, 78, 1);
        harp.note(1, 79, 1);
        checks.same("three play", harp.play(1), 3);
        checks.same("the highest of 79, 78, 77", harp.glass(0, 7), 2);
        checks.same("the lowest of 79, 78, 77", harp.glass(2, 7), 2);
        checks.same("pairs of 79, 78, 77", harp.count(8), 3);
    }

    // ---- promise 1

    private static void newObject() {
        GlassHarp harp = new GlassHarp();
        int[] due = {0, 0, 0, 0, 0, 0, 0, 120, 0};
        for (int what = 0; what < due.length; what++) {
            checks.same("count(" + what + ")", harp.count(what), due[what]);
        }
        for (int row = 0; row < 4; row++) {
            checks.same("glasses of a row", harp.row(row, 2), 0);
            checks.same("no air is wanted", harp.wants(row, 80), 0);
        }
        for (int what = 0; what < 3; what++) {
            checks.same("nothing to come", harp.foresee(150, what), 0);
        }
        checks.refused("no glass", harp, INDEX, () -> harp.glass(0, 0));
        checks.refused("no note", harp, INDEX, () -> harp.written(0, 0));
        checks.same("no glass to tune", harp.advise(80, 80), -1);
        checks.sameDouble("no mean", harp.mean(), 0.0);
        checks.same("nothing is played", harp.play(200), 0);
        GlassHarp other = new GlassHarp();
        other.set(0, 1, 0);
        other.note(0, 112, 1);
        checks.same("objects share no glass", harp.count(1), 0);
        checks.same("objects share no note", harp.count(3), 0);
    }

    // ---- promise 2

    private static void setRow() {
        GlassHarp harp = new GlassHarp();
        for (int wrong : new int[] {-1, 4, Integer.MIN_VALUE, Integer.MAX_VALUE}) {
            checks.refused("row " + wrong, harp, ARGUMENT, () -> harp.set(wrong, 1, 0));
        }
        checks.same("row 0", harp.set(0, 1, 0), 0);
        checks.same("row 3", harp.set(3, 1, 0), 1);
    }

    private static void setSize() {
        GlassHarp harp = new GlassHarp();
        for (int wrong : new int[] {0, 10, -1, Integer.MIN_VALUE, Integer.MAX_VALUE}) {
            checks.refused("size " + wrong, harp, ARGUMENT, () -> harp.set(0, wrong, 0));
        }
        checks.same("size 1", harp.set(0, 1, 0), 0);
        checks.same("size 9", harp.set(0, 9, 0), 1);
    }

    private static void setDrops() {
        for (int size = 1; size <= 9; size++) {
            GlassHarp harp = new GlassHarp();
            int one = size;
            for (int wrong : new int[] {-1, 100 * size + 1, Integer.MIN_VALUE, Integer.MAX_VALUE}) {
                checks.refused("drops " + wrong, harp, ARGUMENT, () -> harp.set(0, one, wrong));
            }
            checks.same("drops 0", harp.set(0, size, 0), 0);
            checks.same("drops of a full glass", harp.set(0, size, 100 * size), 1);
        }
    }

    private static void setWhenFull() {
        GlassHarp harp = harpOf(MOST_GLASSES - 1);
        checks.same("the 16th", harp.set(3, 9, 900), 15);
        checks.refused("a 17th", harp, STATE, () -> harp.set(3, 9, 900));
        checks.refused("a 17th with a wrong row", harp, ARGUMENT, () -> harp.set(4, 9, 900));
        checks.refused("a 17th with a wrong size", harp, ARGUMENT, () -> harp.set(3, 0, 0));
        checks.refused("a 17th with wrong drops", harp, ARGUMENT, () -> harp.set(3, 9, 901));
        checks.same("the 16th is as it was", harp.glass(15, 2), 900);
    }

    // ---- promise 3

    private static void dropMoreAndFewer() {
        GlassHarp harp = new GlassHarp();
        harp.set(0, 2, 30);
        harp.set(0, 2, 30);
        harp.drop(1, 1);
        checks.same("one more", harp.glass(1, 2), 31);
        harp.drop(1, -1);
        checks.same("one fewer", harp.glass(1, 2), 30);
        harp.drop(1, 60);
        checks.same("60 more", harp.glass(1, 2), 90);
        harp.drop(1, -45);
        checks.same("45 fewer", harp.glass(1, 2), 45);
        checks.same("the other glass", harp.glass(0, 2), 30);
    }

    private static void dropTellsTheTone() {
        GlassHarp harp = new GlassHarp();
        harp.set(0, 2, 6);
        checks.same("a drop before a step", harp.drop(0, 1), 104);
        checks.same("at a step", harp.drop(0, 1), 103);
        checks.same("back", harp.drop(0, -1), 104);
        checks.same("as it is told", harp.glass(0, 3), 104);
    }

    private static void dropIntoNoGlass() {
        GlassHarp none = new GlassHarp();
        checks.refused("none yet", none, INDEX, () -> none.drop(0, 1));
        checks.refused("none yet, 0 drops", none, INDEX, () -> none.drop(0, 0));
        GlassHarp harp = harpOf(3);
        for (int wrong : new int[] {-1, 3, Integer.MIN_VALUE, Integer.MAX_VALUE}) {
            checks.refused("glass " + wrong, harp, INDEX, () -> harp.drop(wrong, 1));
            checks.refused("glass " + wrong + ", 0 drops", harp, INDEX, () -> harp.drop(wrong, 0));
            checks.refused("glass " + wrong + ", 201 drops", harp, INDEX, () -> harp.drop(wrong, 201));
        }
        checks.same("the first", harp.drop(0, 1), 112);
        checks.same("the last", harp.drop(2, 10), 94);
        GlassHarp full = harpOf(MOST_GLASSES);
        checks.same("the last of 16", full.drop(15, -105), 64);
        checks.refused("glass 16 of 16", full, INDEX, () -> full.drop(16, 1));
    }

    private static void dropNothing() {
        GlassHarp harp = new GlassHarp();
        harp.set(0, 2, 0);
        checks.refused("0 drops", harp, ARGUMENT, () -> harp.drop(0, 0));
        checks.same("1 drop", harp.drop(0, 1), 104);
        checks.same("-1 drop", harp.drop(0, -1), 104);
        GlassHarp cracked = crackedHarp();
        checks.refused("0 drops, cracked", cracked, ARGUMENT, () -> cracked.drop(0, 0));
    }

    private static void dropTooManyAtOnce() {
        GlassHarp harp = new GlassHarp();
        harp.set(0, 9, 450);
        for (int wrong : new int[] {-201, 201, Integer.MIN_VALUE, Integer.MAX_VALUE}) {
            checks.refused("drops " + wrong, harp, ARGUMENT, () -> harp.drop(0, wrong));
        }
        checks.same("200 more", harp.drop(0, 200), 48 - 650 / 36);
        checks.same("drops then", harp.glass(0, 2), 650);
        checks.same("200 fewer", harp.drop(0, -200), 48 - 450 / 36);
        checks.same("drops then", harp.glass(0, 2), 450);
        harp.set(0, 1, 0);
        checks.refused("201, and over the brim", harp, ARGUMENT, () -> harp.drop(1, 201));
        checks.refused("-201, and below nothing", harp, ARGUMENT, () -> harp.drop(1, -201));
        GlassHarp cracked = crackedHarp();
        checks.refused("201, cracked", cracked, ARGUMENT, () -> cracked.drop(0, 201));
    }

    private static void dropIntoACrackedGlass() {
        GlassHarp harp = crackedHarp();
        checks.refused("one more", harp, STATE, () -> harp.drop(0, 1));
        checks.refused("one fewer", harp, STATE, () -> harp.drop(0, -1));
        checks.refused("200 more", harp, STATE, () -> harp.drop(0, 200));
        harp.set(0, 1, 0);
        checks.same("a whole one beside it", harp.drop(1, 1), 112);
    }

    private static void dropBelowNothing() {
        for (int size = 1; size <= 9; size++) {
            GlassHarp harp = new GlassHarp();
            harp.set(0, size, 30);
            checks.refused("one too many", harp, STATE, () -> harp.drop(0, -31));
            checks.refused("far too many", harp, STATE, () -> harp.drop(0, -200));
            checks.same("the last ones", harp.drop(0, -30), 120 - 8 * size);
            checks.same("none is left", harp.glass(0, 2), 0);
            checks.refused("one that is not there", harp, STATE, () -> harp.drop(0, -1));
        }
    }

    private static void dropOverTheBrim() {
        for (int size = 1; size <= 9; size++) {
            GlassHarp harp = new GlassHarp();
            harp.set(0, size, 100 * size - 30);
            checks.refused("one too many", harp, STATE, () -> harp.drop(0, 31));
            checks.refused("far too many", harp, STATE, () -> harp.drop(0, 200));
            checks.same("up to the brim", harp.drop(0, 30), 95 - 8 * size);
            checks.same("full", harp.glass(0, 2), 100 * size);
            checks.refused("one over the brim", harp, STATE, () -> harp.drop(0, 1));
        }
    }

    // ---- promise 4

    private static void pumpFromNowOn() {
        GlassHarp harp = new GlassHarp();
        harp.play(1);
        harp.pump(3, 9);
        harp.pump(0, 0);
        checks.same("not before the next beat", harp.row(3, 0), 33);
        harp.play(2);
        checks.same("9 in each", harp.row(3, 0), 51);
        checks.same("0 in each", harp.row(0, 0), 33);
        checks.same("the others as before", harp.row(1, 0), 39);
        checks.same("the others as before", harp.row(2, 0), 39);
    }

    private static void pumpBefore() {
        GlassHarp harp = new GlassHarp();
        checks.same("at first", harp.pump(3, 9), 3);
        checks.same("then", harp.pump(3, 0), 9);
        checks.same("the same once more", harp.pump(3, 0), 0);
        checks.same("another row", harp.pump(2, 5), 3);
    }

    private static void pumpRow() {
        GlassHarp harp = new GlassHarp();
        for (int wrong : new int[] {-1, 4, Integer.MIN_VALUE, Integer.MAX_VALUE}) {
            checks.refused("row " + wrong, harp, INDEX, () -> harp.pump(wrong, 0));
            checks.refused("row " + wrong + ", pump 10", harp, INDEX, () -> harp.pump(wrong, 10));
            checks.refused("row " + wrong + ", pump -1", harp, INDEX, () -> harp.pump(wrong, -1));
        }
        checks.same("row 0", harp.pump(0, 1), 3);
        checks.same("row 3", harp.pump(3, 1), 3);
    }

    private static void pumpMuch() {
        GlassHarp harp = new GlassHarp();
        for (int wrong : new int[] {-1, 10, Integer.MIN_VALUE, Integer.MAX_VALUE}) {
            checks.refused("pump " + wrong, harp, ARGUMENT, () -> harp.pump(0, wrong));
        }
        checks.same("pump 0", harp.pump(0, 0), 3);
        checks.same("pump 9", harp.pump(0, 9), 0);
        checks.same("it is 9", harp.row(0, 1), 9);
    }

    // ---- promise 5

    private static void factsOfAGlass() {
        GlassHarp harp = new GlassHarp();
        harp.set(2, 5, 59);
        harp.note(0, 78, 2);
        harp.play(17);
        int[] due = {2, 5, 52, 78, 0, 9, 2, 0};
        for (int what = 0; what < due.length; what++) {
            checks.same("glass(0, " + what + ")", harp.glass(0, what), due[what]);
        }
        GlassHarp cracked = crackedHarp();
        int[] dueOfCracked = {0, 1, 0, 112, 1, 0, 1, 0};
        for (int what = 0; what < dueOfCracked.length; what++) {
            checks.same("a cracked glass, " + what, cracked.glass(0, what), dueOfCracked[what]);
        }
        beats("against which it beats", ringingPair(20, 40), 1, 1);
    }

    private static void factOfNoGlass() {
        GlassHarp none = new GlassHarp();
        checks.refused("none yet", none, INDEX, () -> none.glass(0, 0));
        GlassHarp harp = harpOf(3);
        for (int wrong : new int[] {-1, 3, Integer.MIN_VALUE, Integer.MAX_VALUE}) {
            for (int what = 0; what <= 8; what++) {
                int one = what;
                checks.refused("glass " + wrong, harp, INDEX, () -> harp.glass(wrong, one));
            }
        }
        checks.same("the first", harp.glass(0, 1), 1);
        checks.same("the last", harp.glass(2, 1), 3);
        GlassHarp full = harpOf(MOST_GLASSES);
        checks.same("the last of 16", full.glass(15, 1), 7);
        checks.refused("glass 16 of 16", full, INDEX, () -> full.glass(16, 1));
    }

    private static void noFactOfAGlass() {
        GlassHarp harp = harpOf(3);
        for (int wrong : new int[] {-1, 8, Integer.MIN_VALUE, Integer.MAX_VALUE}) {
            checks.refused("what " + wrong, harp, INDEX, () -> harp.glass(1, wrong));
        }
        checks.same("what 0", harp.glass(1, 0), 1);
        checks.allowed("what 7", harp, () -> harp.glass(1, 7));
    }

    // ---- promise 6

    private static void factsOfARow() {
        GlassHarp harp = new GlassHarp();
        harp.set(1, 9, 0);
        harp.set(1, 3, 0);
        harp.set(3, 9, 0);
        harp.note(0, 48, 7);
        harp.note(0, 96, 7);
        harp.pump(1, 4);
        harp.play(1);
        int[][] due = {{33, 3, 0}, {34 - 7 - 7, 4, 2}, {33, 3, 0}, {33, 3, 1}};
        for (int row = 0; row < due.length; row++) {
            for (int what = 0; what < 3; what++) {
                checks.same("row(" + row + ", " + what + ")", harp.row(row, what), due[row][what]);
            }
        }
        checks.same("a cracked glass belongs to it too", harp.glass(1, 4), 1);
        GlassHarp full = new GlassHarp();
        for (int glass = 0; glass < MOST_GLASSES; glass++) {
            full.set(3, 1, 0);
        }
        checks.same("all in one row", full.row(3, 2), 16);
        checks.same("none in the others", full.row(0, 2), 0);
    }

    private static void factOfNoRow() {
        GlassHarp harp = harpOf(3);
        for (int wrong : new int[] {-1, 4, Integer.MIN_VALUE, Integer.MAX_VALUE}) {
            for (int what = 0; what <= 3; what++) {
                int one = what;
                checks.refused("row " + wrong, harp, INDEX, () -> harp.row(wrong, one));
            }
        }
        checks.same("row 0", harp.row(0, 2), 1);
        checks.same("row 3", harp.row(3, 2), 0);
    }

    private static void noFactOfARow() {
        GlassHarp harp = harpOf(3);
        for (int wrong : new int[] {-1, 3, Integer.MIN_VALUE, Integer.MAX_VALUE}) {
            checks.refused("what " + wrong, harp, INDEX, () -> harp.row(1, wrong));
        }
        checks.same("what 0", harp.row(1, 0), 30);
        checks.same("what 2", harp.row(1, 2), 1);
    }
}
