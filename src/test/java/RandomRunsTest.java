import java.util.ArrayList;
import java.util.List;
import java.util.Random;

/** Runs of at most 512 calls, each answer against that of the model; the seeds are fixed, so every run is the same. */
public final class RandomRunsTest {
    private static final int RUNS = 4000;
    /** The longest script and all questions at the end of a run take less; what is left of 512 calls is for changes. */
    private static final int KEPT_CALLS = 260;

    private static final String[] KINDS = {"charge", "charge", "fire", "skim", "tap", "tap", "back", "mould", "pour",
        "pour", "break", "melt", "wait", "wait"};

    public static void main(String[] args) {
        for (int seed = 0; seed < RUNS; seed++) {
            run(seed);
        }
        Due.end();
    }

    private static void run(int seed) {
        Random random = new Random(seed);
        Foundry x = new Foundry();
        Model model = new Model();
        int most = random.nextInt(512 - KEPT_CALLS);
        for (int call = 0; call <= most; call++) {
            String what = "seed " + seed + ", call " + call;
            int chance = random.nextInt(100);
            if (chance < 88) {
                change(what, random, x, model);
            } else if (chance < 90) {
                call += script(what, random, x, model);
            } else if (chance < 97) {
                Due.is(what + ", undo", Due.answer(() -> x.undo()), model.undo());
            } else if (chance < 99) {
                Due.is(what + ", save", Due.answer(() -> x.save()), model.save());
            } else {
                Due.is(what + ", restore", Due.answer(() -> x.restore()), model.restore());
            }
        }
        Due.is("seed " + seed + ", the state", Plants.digest(x), model.digest());
        queries("seed " + seed, x, model);
    }

    private static int[] arguments(Random random, String kind, int most) {
        int small = random.nextInt(most + 1);
        int index = random.nextInt(12) == 0 ? random.nextInt(10) : random.nextInt(3);
        int other = random.nextInt(12) == 0 ? random.nextInt(10) : random.nextInt(3);
        switch (kind) {
            case "charge":
                return new int[] {index, "cttlo".charAt(random.nextInt(5)), small};
            case "fire":
                return new int[] {index, random.nextInt(4) == 0 ? random.nextInt(8) : 5, 0};
            case "tap":
                return new int[] {index, other, small};
            case "mould":
                return new int[] {random.nextInt(random.nextInt(5) == 0 ? 45 : 9), 0, 0};
            case "pour":
                return new int[] {index, random.nextInt(7), 0};
            case "break":
                return new int[] {random.nextInt(7), 0, 0};
            case "melt":
                return new int[] {random.nextInt(13), index, 0};
            case "wait":
                return new int[] {random.nextInt(6) == 0 ? random.nextInt(210) : random.nextInt(12), 0, 0};
            default:
                return new int[] {index, other, 0};
        }
    }

    private static void change(String what, Random random, Foundry x, Model model) {
        String kind = KINDS[random.nextInt(KINDS.length)];
        int[] a = arguments(random, kind, random.nextInt(4) == 0 ? 55 : 12);
        if (random.nextInt(40) == 0) {
            a[random.nextInt(3)] = random.nextInt();
        }
        if (random.nextInt(40) == 0) {
            a[random.nextInt(3)] = random.nextInt(7) - 3;
        }
        a[1] = kind.equals("charge") ? (char) a[1] : a[1];
        String call = what + ", " + kind + " " + a[0] + " " + a[1] + " " + a[2];
        Due.is(call, Due.answer(() -> called(x, kind, a[0], a[1], a[2])), model.change(kind, a[0], a[1], a[2]));
    }

    private static int called(Foundry x, String kind, int a, int b, int c) {
        switch (kind) {
            case "charge":
                return x.charge(a, (char) b, c);
            case "fire":
                return x.setFire(a, b);
            case "skim":
                return x.skim(a);
            case "tap":
                return x.tap(a, b, c);
            case "back":
                return x.pourBack(a, b);
            case "mould":
                return x.addMould(a);
            case "pour":
                return x.pour(a, b);
            case "break":
                return x.breakOut(a);
            case "melt":
                return x.meltDown(a, b);
            default:
                return x.advance(a);
        }
    }

    private static String written(String kind, int[] a) {
        switch (kind) {
            case "charge":
                return kind + " " + a[0] + " " + (char) a[1] + a[2];
            case "tap":
                return kind + " " + a[0] + " " + a[1] + " " + a[2];
            case "fire":
            case "back":
            case "pour":
            case "melt":
                return kind + " " + a[0] + " " + a[1];
            default:
                return kind + " " + a[0];
        }
    }

    /** Answers the number of calls, but for the last one. */
    private static int script(String what, Random random, Foundry x, Model model) {
        List<String> kinds = new ArrayList<>();
        List<int[]> arguments = new ArrayList<>();
        StringBuilder text = new StringBuilder();
        int commands = 1 + random.nextInt(5);
        for (int i = 0; i < commands; i++) {
            String kind = KINDS[random.nextInt(KINDS.length)];
            int[] a = arguments(random, kind, 12);
            String command = written(kind, a);
            if (text.length() + command.length() + 1 > 60) {
                break;
            }
            text.append(i == 0 ? "" : ";").append(command);
            kinds.add(kind);
            arguments.add(a);
        }
        Plants.type(x, text.toString());
        String got = Due.answer(() -> x.runScript());
        if (got.equals("IllegalStateException")) {
            got += " " + x.failedCommand();
        }
        Due.is(what + ", script " + text, got, model.script(kinds, arguments));
        return text.length() + 1;
    }

    private static void queries(String what, Foundry x, Model model) {
        Due.is(what + ", isConsistent", x.isConsistent(), true);
        for (int i = 0; i < 3; i++) {
            int furnace = i;
            int minutes = model.minutesUntilMolten(i);
            String want = minutes < 0 ? "NoSuchElementException" : "" + minutes;
            Due.is(what + ", minutesUntilMolten", Due.answer(() -> x.minutesUntilMolten(furnace)), want);
            Due.is(what + ", by division", Due.answer(() -> x.minutesUntilMoltenByDivision(furnace)), want);
            String point = model.mass("F" + i) == 0 ? "NoSuchElementException" : "" + model.point("F" + i);
            Due.is(what + ", meltingPoint", Due.answer(() -> x.meltingPoint(furnace)), point);
            Due.is(what + ", by differences", Due.answer(() -> x.meltingPointByDifferences(furnace)), point);
            Due.is(what + ", isMolten", x.isMolten(i), model.molten("F" + i));
            Due.is(what + ", furnaceByTemperature", x.furnaceByTemperature(i), model.furnaceOrder().get(i));
            String pouring = !model.molten("L" + i) ? "NoSuchElementException"
                : "" + (model.get("L" + i + "@") - model.point("L" + i)) / 10;
            Due.is(what + ", pouringMinutes", Due.answer(() -> x.pouringMinutes(furnace)), pouring);
        }
        List<Integer> order = model.ingotOrder();
        for (int i = 0; i < order.size(); i++) {
            Due.is(what + ", ingotByMass", x.ingotByMass(i), order.get(i));
        }
        for (char m : Plants.MATERIALS.toCharArray()) {
            Due.is(what + ", stock", x.stock(m), model.get("charged" + m) - model.get("slag" + m));
            Due.is(what + ", stockByAccounts", x.stockByAccounts(m), x.stock(m));
        }
    }
}
