import java.util.ArrayList;
import java.util.List;
import java.util.function.Consumer;

/** What the terms say of methods that throw: for each method, on an empty, a full and a played object. */
final class RefusalsTest {
    private static final Class<IllegalArgumentException> ARGUMENT = IllegalArgumentException.class;
    private static final Class<IllegalStateException> STATE = IllegalStateException.class;
    private static final Class<IndexOutOfBoundsException> INDEX = IndexOutOfBoundsException.class;

    /** A call that is refused, and the exception that is named first of those that apply. */
    private record Refusal(String name, Class<? extends RuntimeException> due, Consumer<GlassHarp> call) { }

    private static final Checks checks = new Checks();
    private static final Sentences document = new Sentences(checks);
    private static final List<Refusal> always = new ArrayList<>();
    private static final List<Refusal> whenEmpty = new ArrayList<>();
    private static final List<Refusal> whenFull = new ArrayList<>();
    private static final List<Refusal> ofSeveral = new ArrayList<>();

    public static void main(String[] args) {
        alwaysRefused();
        refusedWhenEmpty();
        refusedWhenFull();
        refusedForSeveralReasons();
        document.in("Terms");
        document.test("A method that throws an exception changes nothing.", RefusalsTest::nothingIsChanged);
        document.test("If several exceptions apply, the one that is named first is thrown.",
            RefusalsTest::theFirstIsThrown);
        document.end();
    }

    private static void alwaysRefused() {
        for (int far : new int[] {Integer.MIN_VALUE, -1, 1000, Integer.MAX_VALUE}) {
            String of = " of " + far;
            always.add(new Refusal("set" + of, ARGUMENT, harp -> harp.set(far, 1, 0)));
            always.add(new Refusal("set, size" + of, ARGUMENT, harp -> harp.set(0, far, 0)));
            always.add(new Refusal("set, drops" + of, ARGUMENT, harp -> harp.set(0, 9, far)));
            always.add(new Refusal("drop" + of, INDEX, harp -> harp.drop(far, 1)));
            always.add(new Refusal("pump" + of, INDEX, harp -> harp.pump(far, 1)));
            always.add(new Refusal("pump, air" + of, ARGUMENT, harp -> harp.pump(0, far)));
            always.add(new Refusal("glass" + of, INDEX, harp -> harp.glass(far, 0)));
            always.add(new Refusal("row" + of, INDEX, harp -> harp.row(far, 0)));
            always.add(new Refusal("row, what" + of, INDEX, harp -> harp.row(0, far)));
            always.add(new Refusal("setLength" + of, ARGUMENT, harp -> harp.setLength(far)));
            always.add(new Refusal("note" + of, ARGUMENT, harp -> harp.note(far, 80, 1)));
            always.add(new Refusal("note, tone" + of, ARGUMENT, harp -> harp.note(0, far, 1)));
            always.add(new Refusal("note, force" + of, ARGUMENT, harp -> harp.note(0, 80, far)));
            always.add(new Refusal("strike" + of, INDEX, harp -> harp.strike(far)));
            always.add(new Refusal("written" + of, INDEX, harp -> harp.written(far, 0)));
            always.add(new Refusal("play" + of, ARGUMENT, harp -> harp.play(far)));
            always.add(new Refusal("count" + of, INDEX, harp -> harp.count(far)));
            always.add(new Refusal("needs" + of, INDEX, harp -> harp.needs(far, 80)));
            always.add(new Refusal("foresee" + of, ARGUMENT, harp -> harp.foresee(far, 0)));
            always.add(new Refusal("foresee, what" + of, INDEX, harp -> harp.foresee(150, far)));
            always.add(new Refusal("advise" + of, ARGUMENT, harp -> harp.advise(far, 80)));
            always.add(new Refusal("advise, beats" + of, ARGUMENT, harp -> harp.advise(80, far)));
            always.add(new Refusal("wants" + of, INDEX, harp -> harp.wants(far, 80)));
            always.add(new Refusal("wants, beats" + of, ARGUMENT, harp -> harp.wants(0, far)));
        }
    }

    private static void refusedWhenEmpty() {
        whenEmpty.add(new Refusal("drop", INDEX, harp -> harp.drop(0, 1)));
        whenEmpty.add(new Refusal("glass", INDEX, harp -> harp.glass(0, 0)));
        whenEmpty.add(new Refusal("strike", INDEX, harp -> harp.strike(0)));
        whenEmpty.add(new Refusal("written", INDEX, harp -> harp.written(0, 0)));
        whenEmpty.add(new Refusal("needs", INDEX, harp -> harp.needs(0, 80)));
    }

    private static void refusedWhenFull() {
        whenFull.add(new Refusal("set", STATE, harp -> harp.set(0, 9, 0)));
        whenFull.add(new Refusal("note", STATE, harp -> harp.note(0, 80, 1)));
        whenFull.add(new Refusal("drop, cracked", STATE, harp -> harp.drop(0, 1)));
        whenFull.add(new Refusal("drop, below nothing", STATE, harp -> harp.drop(14, -200)));
        whenFull.add(new Refusal("drop, over the brim", STATE, harp -> harp.drop(15, 5)));
        whenFull.add(new Refusal("drop, behind the last", INDEX, harp -> harp.drop(16, 1)));
        whenFull.add(new Refusal("drop, none", ARGUMENT, harp -> harp.drop(14, 0)));
        whenFull.add(new Refusal("glass, behind the last", INDEX, harp -> harp.glass(16, 0)));
        whenFull.add(new Refusal("glass, what", INDEX, harp -> harp.glass(15, 8)));
        whenFull.add(new Refusal("strike, behind the last", INDEX, harp -> harp.strike(32)));
        whenFull.add(new Refusal("written, behind the last", INDEX, harp -> harp.written(32, 0)));
        whenFull.add(new Refusal("written, what", INDEX, harp -> harp.written(31, 3)));
        whenFull.add(new Refusal("needs, behind the last", INDEX, harp -> harp.needs(16, 80)));
        whenFull.add(new Refusal("needs, tone", ARGUMENT, harp -> harp.needs(15, 121)));
    }

    private static void refusedForSeveralReasons() {
        ofSeveral.add(new Refusal("set, row, full", ARGUMENT, harp -> harp.set(4, 1, 0)));
        ofSeveral.add(new Refusal("set, size, full", ARGUMENT, harp -> harp.set(0, 10, 0)));
        ofSeveral.add(new Refusal("set, drops, full", ARGUMENT, harp -> harp.set(0, 1, 101)));
        ofSeveral.add(new Refusal("drop, glass, none", INDEX, harp -> harp.drop(16, 0)));
        ofSeveral.add(new Refusal("drop, glass, too many", INDEX, harp -> harp.drop(-1, 201)));
        ofSeveral.add(new Refusal("drop, none, cracked", ARGUMENT, harp -> harp.drop(0, 0)));
        ofSeveral.add(new Refusal("drop, too many, cracked", ARGUMENT, harp -> harp.drop(0, 201)));
        ofSeveral.add(new Refusal("drop, too many, below", ARGUMENT, harp -> harp.drop(14, -201)));
        ofSeveral.add(new Refusal("drop, too many, over", ARGUMENT, harp -> harp.drop(15, 201)));
        ofSeveral.add(new Refusal("drop, far too many, over", ARGUMENT, harp -> harp.drop(15, Integer.MAX_VALUE)));
        ofSeveral.add(new Refusal("pump, row, air", INDEX, harp -> harp.pump(4, 10)));
        ofSeveral.add(new Refusal("glass, glass, what", INDEX, harp -> harp.glass(16, 8)));
        ofSeveral.add(new Refusal("row, row, what", INDEX, harp -> harp.row(4, 3)));
        ofSeveral.add(new Refusal("note, beat, full", ARGUMENT, harp -> harp.note(64, 80, 1)));
        ofSeveral.add(new Refusal("note, tone, full", ARGUMENT, harp -> harp.note(0, 121, 1)));
        ofSeveral.add(new Refusal("note, force, full", ARGUMENT, harp -> harp.note(0, 80, 0)));
        ofSeveral.add(new Refusal("written, place, what", INDEX, harp -> harp.written(32, 3)));
        ofSeveral.add(new Refusal("needs, glass, tone", INDEX, harp -> harp.needs(16, 121)));
        ofSeveral.add(new Refusal("foresee, no beats, what", ARGUMENT, harp -> harp.foresee(0, 4)));
        ofSeveral.add(new Refusal("foresee, beats, what", ARGUMENT, harp -> harp.foresee(151, -1)));
        ofSeveral.add(new Refusal("advise, tone, beats", ARGUMENT, harp -> harp.advise(121, 81)));
        ofSeveral.add(new Refusal("wants, row, no beats", INDEX, harp -> harp.wants(4, 0)));
        ofSeveral.add(new Refusal("wants, row, beats", INDEX, harp -> harp.wants(-1, 81)));
    }

    /** 16 glasses, the first cracked, the last full but for four drops, and 32 notes, in the beat 9. */
    private static GlassHarp fullHarp() {
        GlassHarp harp = new GlassHarp();
        for (int glass = 0; glass < 15; glass++) {
            harp.set(glass % 4, glass % 9 + 1, 6 * glass);
        }
        harp.set(3, 2, 198);
        for (int note = 0; note < 32; note++) {
            harp.note(note / 3, 112 - note, note == 0 ? 5 : note % 3 + 1);
        }
        harp.setLength(13);
        harp.pump(2, 7);
        harp.play(9);
        checks.same("the first is cracked", harp.glass(0, 4), 1);
        checks.same("the last but one is whole", harp.glass(14, 4), 0);
        checks.same("the last is nearly full", harp.glass(15, 2), 196);
        checks.isTrue("some beat", harp.count(8) > 0);
        return harp;
    }

    private static void nothingIsChanged() {
        List<Refusal> empty = new ArrayList<>(always);
        empty.addAll(whenEmpty);
        unchanged(empty, new GlassHarp(), new GlassHarp());
        List<Refusal> full = new ArrayList<>(always);
        full.addAll(whenFull);
        full.addAll(ofSeveral);
        unchanged(full, fullHarp(), fullHarp());
    }

    /** What a call changed in secret would show when the score is played on. */
    private static void unchanged(List<Refusal> refusals, GlassHarp harp, GlassHarp other) {
        for (Refusal one : refusals) {
            long before = harp.digest();
            checks.sameText(one.name(), Checks.thrownBy(() -> one.call().accept(harp)), one.due().getSimpleName());
            checks.same(one.name() + ", as it was", harp.digest(), before);
        }
        checks.same("as the other", harp.digest(), other.digest());
        for (int what = 0; what < 4; what++) {
            checks.same("foreseen as the other", harp.foresee(150, what), other.foresee(150, what));
        }
        for (int beats = 1; beats <= 20; beats++) {
            checks.same("played as the other", harp.play(beats), other.play(beats));
            checks.same("as the other then", harp.digest(), other.digest());
        }
    }

    private static void theFirstIsThrown() {
        for (Refusal one : ofSeveral) {
            GlassHarp harp = fullHarp();
            checks.refused(one.name(), harp, one.due(), () -> one.call().accept(harp));
        }
    }
}
