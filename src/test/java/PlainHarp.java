import java.util.ArrayList;
import java.util.List;
import java.util.function.ToIntFunction;

/**
 * The document once more, written another way than GlassHarp: glasses and notes are objects in
 * lists, and what would be is played on a copy. A call answers a text: a number, or what it throws.
 */
final class PlainHarp {
    private static final String INDEX = "throws.IndexOutOfBoundsException";
    private static final String ARGUMENT = "throws.IllegalArgumentException";
    private static final String STATE = "throws.IllegalStateException";

    private static final class Glass {
        int row;
        int size;
        int drops;
        boolean cracked;
        int ring;
        int plays;
        int lastBeat = -1;

        int tone() {
            return Math.max(0, 120 - 8 * size - drops / (4 * size));
        }

        Glass copy() {
            Glass copy = new Glass();
            copy.row = row;
            copy.size = size;
            copy.drops = drops;
            copy.cracked = cracked;
            copy.ring = ring;
            copy.plays = plays;
            copy.lastBeat = lastBeat;
            return copy;
        }
    }

    private record Note(int beat, int tone, int force) { }

    private List<Glass> glasses = new ArrayList<>();
    private List<Note> notes = new ArrayList<>();
    private int[] air = {30, 30, 30, 30};
    private int[] pump = {3, 3, 3, 3};
    private int length = 16;
    private int beat;
    private int played;
    private int inTune;
    private int missed;

    private PlainHarp copy() {
        PlainHarp copy = new PlainHarp();
        for (Glass glass : glasses) {
            copy.glasses.add(glass.copy());
        }
        copy.notes = new ArrayList<>(notes);
        copy.air = air.clone();
        copy.pump = pump.clone();
        copy.length = length;
        copy.beat = beat;
        copy.played = played;
        copy.inTune = inTune;
        copy.missed = missed;
        return copy;
    }

    /** The answer that is due to a call with these arguments, of which some may not be used. */
    String answer(String call, int a, int b, int c) {
        return switch (call) {
            case "set" -> set(a, b, c);
            case "drop" -> drop(a, b);
            case "pump" -> pump(a, b);
            case "glass" -> !isGlass(a) || b < 0 || b > 7 ? INDEX : "" + glassFact(a, b);
            case "row" -> a < 0 || a > 3 || b < 0 || b > 2 ? INDEX : "" + rowFact(a, b);
            case "setLength" -> setLength(a);
            case "note" -> note(a, b, c);
            case "strike" -> a < 0 || a >= notes.size() ? INDEX : "" + notes.remove(a).tone();
            case "written" -> a < 0 || a >= notes.size() || b < 0 || b > 2 ? INDEX : "" + noteFact(a, b);
            case "play" -> play(a);
            case "count" -> a < 0 || a > 8 ? INDEX : "" + counted(a);
            case "needs" -> !isGlass(a) ? INDEX : b < 0 || b > 120 ? ARGUMENT : "" + fewest(glasses.get(a), b);
            case "foresee" -> a < 1 || a > 150 ? ARGUMENT : b < 0 || b > 3 ? INDEX : "" + foreseen(a, b);
            case "advise" -> a < 0 || a > 120 || b < 1 || b > 80 ? ARGUMENT : "" + advised(a, b);
            case "wants" -> a < 0 || a > 3 ? INDEX : b < 1 || b > 80 ? ARGUMENT : "" + wanted(a, b);
            case "mean" -> "" + (played + missed == 0 ? 0.0 : inTune / (double) (played + missed));
            default -> "" + digest();
        };
    }

    private boolean isGlass(int glass) {
        return glass >= 0 && glass < glasses.size();
    }

    private String set(int row, int size, int drops) {
        if (row < 0 || row > 3 || size < 1 || size > 9 || drops < 0 || drops > 100 * size) {
            return ARGUMENT;
        }
        if (glasses.size() == 16) {
            return STATE;
        }
        Glass glass = new Glass();
        glass.row = row;
        glass.size = size;
        glass.drops = drops;
        glasses.add(glass);
        return "" + (glasses.size() - 1);
    }

    private String drop(int number, int drops) {
        if (!isGlass(number)) {
            return INDEX;
        }
        if (drops == 0 || drops < -200 || drops > 200) {
            return ARGUMENT;
        }
        Glass glass = glasses.get(number);
        if (glass.cracked || glass.drops + drops < 0 || glass.drops + drops > 100 * glass.size) {
            return STATE;
        }
        glass.drops += drops;
        return "" + glass.tone();
    }

    private String pump(int row, int much) {
        if (row < 0 || row > 3) {
            return INDEX;
        }
        if (much < 0 || much > 9) {
            return ARGUMENT;
        }
        String before = "" + pump[row];
        pump[row] = much;
        return before;
    }

    private int glassFact(int number, int what) {
        Glass glass = glasses.get(number);
        return switch (what) {
            case 0 -> glass.row;
            case 1 -> glass.size;
            case 2 -> glass.drops;
            case 3 -> glass.tone();
            case 4 -> glass.cracked ? 1 : 0;
            case 5 -> glass.ring;
            case 6 -> glass.plays;
            default -> (int) glasses.stream().filter(other -> other != glass && beating(glass, other)).count();
        };
    }

    private static boolean beating(Glass one, Glass other) {
        int apart = Math.abs(one.tone() - other.tone());
        return one.ring >= 1 && other.ring >= 1 && (apart == 1 || apart == 2);
    }

    private int rowFact(int row, int what) {
        return what == 0 ? air[row] : what == 1 ? pump[row]
            : (int) glasses.stream().filter(glass -> glass.row == row).count();
    }

    private int noteFact(int index, int what) {
        Note note = notes.get(index);
        return what == 0 ? note.beat() : what == 1 ? note.tone() : note.force();
    }

    private String setLength(int to) {
        if (to < 1 || to > 64) {
            return ARGUMENT;
        }
        String before = "" + length;
        length = to;
        return before;
    }

    private String note(int at, int tone, int force) {
        if (at < 0 || at > 63 || tone < 0 || tone > 120 || force < 1 || force > 9) {
            return ARGUMENT;
        }
        if (notes.size() == 32) {
            return STATE;
        }
        notes.add(new Note(at, tone, force));
        return "" + notes.size();
    }

    private String play(int beats) {
        if (beats < 1 || beats > 200) {
            return ARGUMENT;
        }
        int before = played;
        goOn(beats);
        return "" + (played - before);
    }

    private PlainHarp goOn(int beats) {
        for (int i = 0; i < beats; i++) {
            beatOnce();
        }
        return this;
    }

    private void beatOnce() {
        for (int row = 0; row < 4; row++) {
            air[row] += pump[row];
            if (air[row] > 60) {
                air[row] = 60;
            }
        }
        for (Note note : notes) {
            if (note.beat() == beat % length) {
                sound(note);
            }
        }
        for (Glass glass : glasses) {
            if (glass.lastBeat != beat && glass.ring > 0) {
                glass.ring--;
            }
            if (beat % 8 == 0 && glass.drops > 0) {
                glass.drops--;
            }
        }
        beat++;
    }

    private void sound(Note note) {
        Glass best = null;
        for (int apart = 0; apart <= 6 && best == null; apart++) {
            for (Glass glass : glasses) {
                if (best == null && Math.abs(glass.tone() - note.tone()) == apart && !glass.cracked
                        && glass.lastBeat != beat && air[glass.row] >= note.force()) {
                    best = glass;
                }
            }
        }
        if (best == null) {
            missed++;
            return;
        }
        played++;
        inTune += Math.abs(best.tone() - note.tone()) <= 1 ? 1 : 0;
        air[best.row] -= note.force();
        best.lastBeat = beat;
        best.plays++;
        best.cracked = note.force() > best.size + 3;
        best.ring = best.cracked ? 0 : 9;
        best.drops = best.cracked ? 0 : Math.max(0, best.drops - note.force());
    }

    private int counted(int what) {
        return switch (what) {
            case 0 -> beat;
            case 1 -> glasses.size();
            case 2 -> (int) glasses.stream().filter(glass -> glass.cracked).count();
            case 3 -> notes.size();
            case 4 -> played;
            case 5 -> inTune;
            case 6 -> missed;
            case 7 -> air[0] + air[1] + air[2] + air[3];
            default -> pairs();
        };
    }

    private int pairs() {
        int pairs = 0;
        for (int i = 0; i < glasses.size(); i++) {
            for (int j = 0; j < i; j++) {
                pairs += beating(glasses.get(i), glasses.get(j)) ? 1 : 0;
            }
        }
        return pairs;
    }

    private static int fewest(Glass glass, int tone) {
        int fewest = 4 * glass.size * (120 - 8 * glass.size - tone);
        return fewest < 0 || fewest > 100 * glass.size ? -1 : fewest;
    }

    private int foreseen(int beats, int what) {
        PlainHarp then = copy().goOn(beats);
        return switch (what) {
            case 0 -> then.played - played;
            case 1 -> then.inTune - inTune;
            case 2 -> then.missed - missed;
            default -> then.counted(2);
        };
    }

    private int advised(int tone, int beats) {
        int best = -1;
        int most = copy().goOn(beats).inTune;
        for (int number = 0; number < glasses.size(); number++) {
            int fewest = fewest(glasses.get(number), tone);
            if (fewest >= 0 && !glasses.get(number).cracked) {
                PlainHarp other = copy();
                other.glasses.get(number).drops = fewest;
                int then = other.goOn(beats).inTune;
                if (then > most) {
                    most = then;
                    best = number;
                }
            }
        }
        return best;
    }

    private int wanted(int row, int beats) {
        ToIntFunction<Integer> missedWith = much -> {
            PlainHarp other = copy();
            other.pump[row] = much;
            return other.goOn(beats).missed;
        };
        int much = 0;
        while (missedWith.applyAsInt(much) > missedWith.applyAsInt(9)) {
            much++;
        }
        return much;
    }

    private long digest() {
        List<Integer> numbers = new ArrayList<>();
        for (int what = 0; what <= 8; what++) {
            numbers.add(counted(what));
        }
        numbers.add(length);
        for (int i = 0; i < glasses.size() * 8; i++) {
            numbers.add(glassFact(i / 8, i % 8));
        }
        for (int i = 0; i < 12; i++) {
            numbers.add(rowFact(i / 3, i % 3));
        }
        for (int i = 0; i < notes.size() * 3; i++) {
            numbers.add(noteFact(i / 3, i % 3));
        }
        long d = 829;
        for (int x : numbers) {
            d = 31 * d + x;
        }
        return d;
    }
}
