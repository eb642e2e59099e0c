/** Promises 1 to 6: a new object, set, drop, pump, glass, row. */
final class GlassesTest {
    private static final Class<IllegalArgumentException> ARGUMENT = IllegalArgumentException.class;
    private static final Class<IllegalStateException> STATE = IllegalStateException.class;
    private static final Class<IndexOutOfBoundsException> INDEX = IndexOutOfBoundsException.class;
    private static final int[] FAR_INTS = {Integer.MIN_VALUE, Integer.MAX_VALUE};

    private static final Checks checks = new Checks();

    public static void main(String[] args) {
        newObject();
        set();
        setRefuses();
        drop();
        dropRefuses();
        pump();
        glass();
        glassBeats();
        row();
        checks.end();
    }

    private static void newObject() {
        GlassHarp harp = new GlassHarp();
        int[] due = {0, 0, 0, 0, 0, 0, 0, 120, 0};
        for (int what = 0; what < due.length; what++) {
            checks.same("count(" + what + ") of a new object", harp.count(what), due[what]);
        }
        for (int row = 0; row < 4; row++) {
            checks.same("air at first", harp.row(row, 0), 30);
            checks.same("pump at first", harp.row(row, 1), 3);
            checks.same("glasses at first", harp.row(row, 2), 0);
        }
        checks.same("length at first", harp.setLength(16), 16);
        GlassHarp other = new GlassHarp();
        other.set(0, 1, 0);
        checks.same("objects share nothing", harp.count(1), 0);
    }

    private static void set() {
        GlassHarp harp = new GlassHarp();
        checks.same("set least", harp.set(0, 1, 0), 0);
        checks.same("set most", harp.set(3, 9, 900), 1);
        for (int number = 2; number < 16; number++) {
            int size = number % 9 + 1;
            checks.same("set", harp.set(number % 4, size, 10 * number), number);
            checks.same("row", harp.glass(number, 0), number % 4);
            checks.same("size", harp.glass(number, 1), size);
            checks.same("drops", harp.glass(number, 2), 10 * number);
            checks.same("tone", harp.glass(number, 3), 120 - 8 * size - 10 * number / (4 * size));
            for (int what = 4; what < 8; what++) {
                checks.same("a new glass, " + what, harp.glass(number, what), 0);
            }
        }
        checks.refused("a 17th glass", harp, STATE, () -> harp.set(0, 1, 0));
        checks.refused("a 17th glass that is wrong", harp, ARGUMENT, () -> harp.set(0, 1, 101));
        checks.same("glasses", harp.count(1), 16);
        checks.same("the first is as it was", harp.glass(0, 3), 112);
        checks.same("the second is as it was", harp.glass(1, 3), 23);
    }

    private static void setRefuses() {
        GlassHarp harp = new GlassHarp();
        checks.refused("row -1", harp, ARGUMENT, () -> harp.set(-1, 1, 0));
        checks.refused("row 4", harp, ARGUMENT, () -> harp.set(4, 1, 0));
        checks.refused("size 0", harp, ARGUMENT, () -> harp.set(0, 0, 0));
        checks.refused("size 10", harp, ARGUMENT, () -> harp.set(0, 10, 0));
        checks.refused("drops -1", harp, ARGUMENT, () -> harp.set(0, 1, -1));
        for (int size = 1; size <= 9; size++) {
            int one = size;
            checks.refused("too many drops", harp, ARGUMENT, () -> harp.set(0, one, 100 * one + 1));
        }
        for (int far : FAR_INTS) {
            checks.refused("far row", harp, ARGUMENT, () -> harp.set(far, 1, 0));
            checks.refused("far size", harp, ARGUMENT, () -> harp.set(0, far, 0));
            checks.refused("far drops", harp, ARGUMENT, () -> harp.set(0, 9, far));
        }
    }

    private static void drop() {
        GlassHarp harp = new GlassHarp();
        harp.set(0, 2, 0);
        harp.set(1, 9, 500);
        checks.same("7 drops more", harp.drop(0, 7), 104);
        checks.same("one more", harp.drop(0, 1), 103);
        checks.same("one fewer", harp.drop(0, -1), 104);
        checks.same("up to the brim", harp.drop(0, 193), 79);
        checks.same("at the brim", harp.glass(0, 2), 200);
        checks.same("all out", harp.drop(0, -200), 104);
        checks.same("all out", harp.glass(0, 2), 0);
        checks.same("all in at once", harp.drop(0, 200), 79);
        checks.same("most at once", harp.drop(1, 200), 29);
        checks.same("most at once", harp.glass(1, 2), 700);
        checks.same("most out at once", harp.drop(1, -200), 35);
    }

    private static void dropRefuses() {
        GlassHarp harp = new GlassHarp();
        checks.refused("no glass yet", harp, INDEX, () -> harp.drop(0, 1));
        harp.set(0, 2, 30);
        checks.refused("glass -1", harp, INDEX, () -> harp.drop(-1, 1));
        checks.refused("glass 1", harp, INDEX, () -> harp.drop(1, 1));
        checks.refused("glass 1, 0 drops", harp, INDEX, () -> harp.drop(1, 0));
        checks.refused("0 drops", harp, ARGUMENT, () -> harp.drop(0, 0));
        checks.refused("201 drops", harp, ARGUMENT, () -> harp.drop(0, 201));
        checks.refused("-201 drops", harp, ARGUMENT, () -> harp.drop(0, -201));
        checks.refused("less than 0", harp, STATE, () -> harp.drop(0, -31));
        checks.refused("over the brim", harp, STATE, () -> harp.drop(0, 171));
        for (int far : FAR_INTS) {
            checks.refused("far glass", harp, INDEX, () -> harp.drop(far, 1));
            checks.refused("far drops", harp, ARGUMENT, () -> harp.drop(0, far));
        }
        harp.note(0, 101, 6);
        harp.play(1);
        checks.same("cracked", harp.glass(0, 4), 1);
        checks.refused("cracked", harp, STATE, () -> harp.drop(0, 1));
        checks.refused("cracked, 0 drops", harp, ARGUMENT, () -> harp.drop(0, 0));
        for (int number = 1; number < 16; number++) {
            harp.set(0, 1, 0);
        }
        checks.refused("glass 16 of 16", harp, INDEX, () -> harp.drop(16, 1));
    }

    private static void pump() {
        GlassHarp harp = new GlassHarp();
        checks.same("pump at first", harp.pump(3, 9), 3);
        checks.same("pump then", harp.pump(3, 0), 9);
        checks.same("pump after this", harp.row(3, 1), 0);
        checks.same("the others' pump", harp.pump(0, 5), 3);
        harp.play(2);
        checks.same("air without a pump", harp.row(3, 0), 30);
        checks.same("air with 5", harp.row(0, 0), 40);
        checks.same("air with 3", harp.row(1, 0), 36);
        checks.refused("row -1", harp, INDEX, () -> harp.pump(-1, 0));
        checks.refused("row 4", harp, INDEX, () -> harp.pump(4, 0));
        checks.refused("row 4, pump 10", harp, INDEX, () -> harp.pump(4, 10));
        checks.refused("pump -1", harp, ARGUMENT, () -> harp.pump(0, -1));
        checks.refused("pump 10", harp, ARGUMENT, () -> harp.pump(0, 10));
        for (int far : FAR_INTS) {
            checks.refused("far row", harp, INDEX, () -> harp.pump(far, 0));
            checks.refused("far pump", harp, ARGUMENT, () -> harp.pump(0, far));
        }
    }

    private static void glass() {
        GlassHarp harp = new GlassHarp();
        checks.refused("no glass yet", harp, INDEX, () -> harp.glass(0, 0));
        harp.set(2, 5, 59);
        harp.note(0, 78, 2);
        harp.play(17);
        int[] due = {2, 5, 52, 78, 0, 9, 2, 0};
        for (int what = 0; what < due.length; what++) {
            checks.same("glass(0, " + what + ")", harp.glass(0, what), due[what]);
        }
        checks.refused("glass -1", harp, INDEX, () -> harp.glass(-1, 0));
        checks.refused("glass 1", harp, INDEX, () -> harp.glass(1, 0));
        checks.refused("what -1", harp, INDEX, () -> harp.glass(0, -1));
        checks.refused("what 8", harp, INDEX, () -> harp.glass(0, 8));
        for (int far : FAR_INTS) {
            checks.refused("far glass", harp, INDEX, () -> harp.glass(far, 0));
            checks.refused("far what", harp, INDEX, () -> harp.glass(0, far));
        }
        for (int size = 1; size <= 9; size++) {
            int one = harp.set(0, size, 4 * size - 1);
            checks.same("tone just above a step", harp.glass(one, 3), 120 - 8 * size);
            checks.same("tone at a step", harp.drop(one, 1), 119 - 8 * size);
        }
    }

    /** Four glasses with the tones 112 to 109 ring; two beat if they are 1 or 2 apart. */
    private static void glassBeats() {
        GlassHarp harp = new GlassHarp();
        for (int number = 0; number < 4; number++) {
            harp.set(number, 1, 2 + 4 * number);
            harp.note(0, 112 - number, 1);
        }
        harp.set(0, 1, 8);
        harp.play(1);
        int[] due = {2, 3, 3, 2, 0};
        for (int number = 0; number < due.length; number++) {
            checks.same("beats of glass " + number, harp.glass(number, 7), due[number]);
        }
        checks.same("pairs", harp.count(8), 5);
        harp.play(8);
        checks.same("they ring still", harp.glass(0, 5), 1);
        checks.same("pairs after drying", harp.count(8), 5);
        checks.same("equal tones do not beat", harp.glass(0, 7), 2);
        harp.play(1);
        checks.same("they ring no more", harp.glass(0, 5), 0);
        checks.same("beats without a ring", harp.glass(1, 7), 0);
        checks.same("pairs without a ring", harp.count(8), 0);
    }

    private static void row() {
        GlassHarp harp = new GlassHarp();
        harp.set(1, 9, 0);
        harp.set(1, 9, 0);
        harp.set(3, 9, 0);
        harp.note(0, 48, 7);
        harp.pump(1, 4);
        harp.play(1);
        checks.same("air", harp.row(1, 0), 27);
        checks.same("pump", harp.row(1, 1), 4);
        checks.same("glasses", harp.row(1, 2), 2);
        checks.same("glasses", harp.row(3, 2), 1);
        checks.same("glasses", harp.row(0, 2), 0);
        checks.refused("row -1", harp, INDEX, () -> harp.row(-1, 0));
        checks.refused("row 4", harp, INDEX, () -> harp.row(4, 0));
        checks.refused("what -1", harp, INDEX, () -> harp.row(0, -1));
        checks.refused("what 3", harp, INDEX, () -> harp.row(0, 3));
        for (int far : FAR_INTS) {
            checks.refused("far row", harp, INDEX, () -> harp.row(far, 0));
            checks.refused("far what", harp, INDEX, () -> harp.row(0, far));
        }
    }
}
