import java.util.Random;

/** Long runs of calls, drawn with a fixed seed, on GlassHarp and PlainHarp: all 18 promises. */
final class RandomRunsTest {
    private static final int RUNS = 300;
    private static final int MOST_CALLS = 512;
    private static final int[] ODD = {
        Integer.MIN_VALUE, Integer.MAX_VALUE, -201, -200, -1, 0, 1, 4, 9, 10, 16, 32, 64, 65, 80, 81,
        120, 121, 150, 151, 200, 201, 900, 901};
    private static final String[] CALLS = {
        "set", "drop", "pump", "glass", "row", "setLength", "note", "strike", "written", "play",
        "count", "needs", "foresee", "advise", "wants", "mean", "digest"};

    private final Checks checks = new Checks();
    private final Random random = new Random(829);
    private GlassHarp harp;
    private PlainHarp plain;

    public static void main(String[] args) {
        RandomRunsTest test = new RandomRunsTest();
        for (int run = 0; run < RUNS; run++) {
            test.run(run);
        }
        test.checks.end();
    }

    private void run(int run) {
        harp = new GlassHarp();
        plain = new PlainHarp();
        int glasses = random.nextInt(17);
        int notes = random.nextInt(33);
        for (int i = 0; i < glasses; i++) {
            callAtRandom(run, "set");
        }
        for (int i = 0; i < notes; i++) {
            callAtRandom(run, "note");
        }
        int calls = MOST_CALLS - glasses - notes;
        for (int i = 0; i < calls / 2; i++) {
            callAtRandom(run, CALLS[random.nextInt(CALLS.length)]);
            // What a call changed in secret shows in the checksum.
            compare(run, "digest", 0, 0, 0);
        }
    }

    private void callAtRandom(int run, String call) {
        int a = random.nextInt(40) == 0 ? odd() : first(call);
        int b = random.nextInt(40) == 0 ? odd() : second(call);
        int c = random.nextInt(40) == 0 ? odd() : third(call);
        compare(run, call, a, b, c);
    }

    private int odd() {
        return ODD[random.nextInt(ODD.length)];
    }

    private int first(String call) {
        return switch (call) {
            case "set", "pump", "row", "wants" -> random.nextInt(4);
            case "drop", "glass", "needs" -> random.nextInt(17);
            case "setLength" -> 1 + random.nextInt(random.nextInt(64) + 1);
            case "note" -> random.nextInt(random.nextInt(64) + 1);
            case "strike", "written" -> random.nextInt(32);
            case "play" -> 1 + random.nextInt(random.nextInt(200) + 1);
            case "count" -> random.nextInt(9);
            case "foresee" -> 1 + random.nextInt(150);
            default -> 20 + random.nextInt(95);
        };
    }

    private int second(String call) {
        return switch (call) {
            case "set" -> 1 + random.nextInt(9);
            case "drop" -> random.nextInt(401) - 200;
            case "pump" -> random.nextInt(10);
            case "glass" -> random.nextInt(8);
            case "row", "written" -> random.nextInt(3);
            case "foresee" -> random.nextInt(4);
            case "advise", "wants" -> 1 + random.nextInt(80);
            default -> 20 + random.nextInt(95);
        };
    }

    private int third(String call) {
        return call.equals("set") ? random.nextInt(401) : 1 + random.nextInt(random.nextInt(9) + 1);
    }

    private void compare(int run, String call, int a, int b, int c) {
        String what = "run " + run + ": " + call + "(" + a + ", " + b + ", " + c + ")";
        checks.sameText(what, answer(call, a, b, c), plain.answer(call, a, b, c));
    }

    private String answer(String call, int a, int b, int c) {
        try {
            return switch (call) {
                case "set" -> "" + harp.set(a, b, c);
                case "drop" -> "" + harp.drop(a, b);
                case "pump" -> "" + harp.pump(a, b);
                case "glass" -> "" + harp.glass(a, b);
                case "row" -> "" + harp.row(a, b);
                case "setLength" -> "" + harp.setLength(a);
                case "note" -> "" + harp.note(a, b, c);
                case "strike" -> "" + harp.strike(a);
                case "written" -> "" + harp.written(a, b);
                case "play" -> "" + harp.play(a);
                case "count" -> "" + harp.count(a);
                case "needs" -> "" + harp.needs(a, b);
                case "foresee" -> "" + harp.foresee(a, b);
                case "advise" -> "" + harp.advise(a, b);
                case "wants" -> "" + harp.wants(a, b);
                case "mean" -> "" + harp.mean();
                default -> "" + harp.digest();
            };
        } catch (RuntimeException e) {
            return "throws." + e.getClass().getSimpleName();
        }
    }
}
