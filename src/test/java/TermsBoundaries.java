/** The boundary cases that the sections "What it is" and "Terms" name, but for scripts: a test for each sentence. */
final class TermsBoundaries {
    private TermsBoundaries() {
    }

    static void run() {
        Sentences.tested("What it is", "An object is used for at most 512 calls after it has been made; what later calls "
            + "answer is free.", TermsBoundaries::theLastOf512Calls);
        materials();
        furnaces();
        ladles();
        takingAndSkimming();
        mouldsAndIngots();
        time();
        changesAndExceptions();
        namesNoBoundary();
    }

    private static void test(String sentence, Due.Call test) {
        Sentences.tested("Terms", sentence, test);
    }

    private static void theLastOf512Calls() {
        Foundry x = new Foundry();
        for (int i = 0; i < 511; i++) {
            x.advance(200);
        }
        Due.is("time", x.time(), 102200);
        Foundry y = new Foundry();
        for (int i = 0; i < 511; i++) {
            y.setFire(i % 3, 5);
        }
        Due.is("undo", y.undo(), 7);
        Foundry z = new Foundry();
        for (int i = 0; i < 511; i++) {
            Due.thrownBy(() -> z.charge(0, 'c', 51));
        }
        Due.is("charge", z.charge(0, 'c', 50), 20);
        Foundry w = new Foundry();
        for (int i = 0; i < 73; i++) {
            Plants.run(w, "wait 1");
        }
        Due.is("time after 73 scripts of 7 calls", w.time(), 73);
    }

    // materials

    private static void materials() {
        test("All integer divisions round down.", TermsBoundaries::roundedDown);
        test("There are four materials: copper, tin, lead and ore, written as the characters c, t, l and o and considered "
            + "in this order.", TermsBoundaries::fourCharacters);
        test("Masses are whole kilograms, temperatures whole degrees.", TermsBoundaries::leastMass);
        test("The melting points are 1085 degrees for copper, 232 for tin, 327 for lead and 1200 for ore.",
            TermsBoundaries::pureMeltingPoints);
        test("The melting point of a mixture is the sum over all materials of mass times melting point, divided by the mass "
            + "of the mixture.", TermsBoundaries::mixedMeltingPoints);
        test("A mixture is molten if its mass is greater than 0 and its temperature is at least its melting point.",
            TermsBoundaries::justMolten);
    }

    private static void roundedDown() {
        // 2402 / 3 is 800 and two thirds.
        Due.is("meltingPoint", Plants.cold(2, 1, 0, 0).meltingPoint(0), 800);
        Due.is("meltingPointByDifferences", Plants.cold(2, 1, 0, 0).meltingPointByDifferences(0), 800);
        // (25 * 10 + 20) / 11 is 24 and six elevenths.
        Foundry x = new Foundry();
        x.setFire(0, 1);
        x.advance(1);
        Due.is("the temperature of a furnace", x.charge(0, 't', 1), 24);
        // 232 and 247 degrees have the mean 239 and a half.
        Foundry y = Plants.tinAt22(44);
        y.tap(0, 0, 1);
        y.advance(1);
        Due.is("the temperature of a ladle", y.tap(0, 0, 1), 239);
        // 6 / 7 of a thousand are 857 and one seventh, 1 / 7 are 142 and six sevenths.
        Foundry z = Plants.withIngot(6, 1, 0, 0);
        Due.is("share of 6", z.share(0, 'c'), 857);
        Due.is("share of 1", z.share(0, 't'), 142);
        // A quarter of 7 is 1 and three quarters.
        Due.is("skim", Plants.hot(9, 0, 0, 7).skim(0), 8);
        // 1500 - 232 degrees are 126 times 10 and 8.
        Due.is("pouringMinutes", Plants.ladled(1).pouringMinutes(0), 126);
    }

    private static void fourCharacters() {
        for (int from = 0; from < 65536; from += 256) {
            Foundry x = new Foundry();
            for (int code = from; code < from + 256; code++) {
                char character = (char) code;
                String want = "ctlo".indexOf(character) < 0 ? "IllegalArgumentException" : "0";
                Due.is("charged of the character " + code, Due.answer(() -> x.charged(character)), want);
            }
        }
        Foundry y = new Foundry();
        y.charge(0, 'o', 4);
        y.charge(0, 'l', 3);
        y.charge(0, 't', 2);
        y.charge(0, 'c', 1);
        Due.is("the order", Plants.output(y, y.renderFurnace(0)), "c1t2l3o4@20");
    }

    private static void leastMass() {
        Foundry x = Plants.hot(1, 1, 1, 1);
        x.tap(0, 0, 1);
        Due.is("a kilogram is of one material", Plants.inLadle(x, 0), "1 0 0 0");
        x.addMould(1);
        x.pour(0, 0);
        x.breakOut(0);
        Due.is("the least ingot", Plants.inIngot(x, 0), "1 0 0 0");
    }

    private static void pureMeltingPoints() {
        int[] points = {1085, 232, 327, 1200};
        for (int i = 0; i < 4; i++) {
            for (int mass : new int[] {1, 50}) {
                Foundry x = new Foundry();
                x.charge(0, "ctlo".charAt(i), mass);
                Due.is("meltingPoint", x.meltingPoint(0), points[i]);
                Due.is("meltingPointByDifferences", x.meltingPointByDifferences(0), points[i]);
            }
        }
    }

    private static void point(int copper, int tin, int lead, int ore, int want) {
        Foundry x = Plants.cold(copper, tin, lead, ore);
        String what = " of " + Plants.inFurnace(x, 0);
        Due.is("meltingPoint" + what, x.meltingPoint(0), want);
        Due.is("meltingPointByDifferences" + what, x.meltingPointByDifferences(0), want);
    }

    private static void mixedMeltingPoints() {
        point(1, 1, 1, 1, 711);
        point(25, 25, 25, 25, 711);
        point(0, 99, 0, 1, 241);
        point(0, 1, 0, 99, 1190);
        point(1, 99, 0, 0, 240);
        point(0, 99, 1, 0, 232);
        point(0, 1, 99, 0, 326);
        point(100, 0, 0, 0, 1085);
    }

    private static void justMolten() {
        Due.is("tin at 232 degrees", Plants.tinAt22(42).isMolten(0), true);
        Due.is("advance to 232 degrees", Plants.tinAt22(41).advance(1), 1);
        Due.is("tin at 231 degrees", Plants.tinAt21(42).isMolten(0), false);
        Due.is("advance to 231 degrees", Plants.tinAt21(41).advance(1), 0);
        Foundry hot = Plants.hot(0, 0, 0, 0);
        Due.is("an empty furnace of 1500 degrees", hot.isMolten(0), false);
        Due.is("advance of an empty furnace of 1500 degrees", hot.advance(1), 0);
        Foundry x = Plants.tinAt22(44);
        x.tap(0, 0, 5);
        x.advance(1);
        Due.is("tin in a ladle at 232 degrees", Due.answer(() -> x.pouringMinutes(0)), "0");
        Foundry y = Plants.tinAt21(44);
        y.tap(0, 0, 5);
        y.advance(1);
        Due.is("tin in a ladle at 231 degrees", Due.answer(() -> y.pouringMinutes(0)), "NoSuchElementException");
    }

    // furnaces

    private static void furnaces() {
        test("There are the furnaces 0 to 2.", TermsBoundaries::threeFurnaces);
        test("A furnace contains a mixture of at most 100 kilograms, initially nothing, and has a temperature from 20 to "
            + "1500, initially 20, and a fire level from 0 to 5, initially 0.", TermsBoundaries::limitsOfAFurnace);
        test("When a mass m of the temperature s is added to a furnace that contains the mass M and has the temperature T, "
            + "its temperature becomes (T * (M + 10) + s * m) / (M + 10 + m).", TermsBoundaries::addedToAFurnace);
        test("Solid charges have the temperature 20.", TermsBoundaries::solidCharges);
        test("A furnace that becomes empty keeps its temperature.", TermsBoundaries::emptiedFurnace);
    }

    private static void askFurnace(Foundry x, int i) {
        x.charge(i, 't', 1);
        x.setFire(i, 5);
        x.furnaceMass(i, 'c');
        x.furnaceTotal(i);
        x.furnaceTemperature(i);
        x.fire(i);
        x.meltingPoint(i);
        x.meltingPointByDifferences(i);
        x.isMolten(i);
        x.minutesUntilMolten(i);
        x.minutesUntilMoltenByDivision(i);
        x.renderFurnace(i);
    }

    private static void changeFurnace(int i) {
        Foundry x = Plants.molten(i, 0, 90, 0, 4);
        Due.is("skim", x.skim(i), 5);
        Due.is("tap", x.tap(i, 0, 2), x.furnaceTemperature(i));
        x.addMould(1);
        x.pour(0, 0);
        x.breakOut(0);
        x.pourBack(0, i);
        x.meltDown(0, i);
        Due.is("the furnace at last", Plants.inFurnace(x, i), "0 89 0 0");
    }

    private static void threeFurnaces() {
        Foundry x = new Foundry();
        for (int i = 0; i < 3; i++) {
            askFurnace(x, i);
            changeFurnace(i);
        }
        for (int i : Refusals.outside(3)) {
            Due.refused("fire(" + i + ")", Refusals.INDEX, () -> x.fire(i));
            Due.refused("setFire(" + i + ", 0)", Refusals.INDEX, () -> x.setFire(i, 0));
        }
        Due.is("the last rank", x.furnaceByTemperature(2), 2);
        Due.refused("furnaceByTemperature(3)", Refusals.MISSING, () -> x.furnaceByTemperature(3));
    }

    private static void limitsOfAFurnace() {
        for (int i = 0; i < 3; i++) {
            Foundry x = new Foundry();
            Due.is("the mass at first", Plants.inFurnace(x, i), "0 0 0 0");
            Due.is("the temperature at first", x.furnaceTemperature(i), 20);
            Due.is("the fire at first", x.fire(i), 0);
            x.advance(1);
            Due.is("the least temperature", x.furnaceTemperature(i), 20);
            x.setFire(i, 5);
            Due.is("the greatest fire", x.fire(i), 5);
            x.advance(200);
            Due.is("the greatest temperature", x.furnaceTemperature(i), 1500);
            x.charge(i, 't', 50);
            x.charge(i, 'o', 50);
            Due.is("the greatest mass", x.furnaceTotal(i), 100);
        }
        Refusals.refused("101 kilograms", Refusals.UNSUPPORTED, () -> Plants.cold(0, 50, 0, 50), x -> x.charge(0, 'o', 1));
        Refusals.refused("a fire of 6", Refusals.ARGUMENT, Foundry::new, x -> x.setFire(0, 6));
        Refusals.refused("a fire of -1", Refusals.ARGUMENT, Foundry::new, x -> x.setFire(0, -1));
    }

    private static void addedToAFurnace() {
        Due.is("1 kilogram to none", Plants.hot(0, 0, 0, 0).charge(0, 'c', 1), 15020 / 11);
        Due.is("50 kilograms to none", Plants.hot(0, 0, 0, 0).charge(0, 'c', 50), 16000 / 60);
        Due.is("1 kilogram to 99", Plants.hot(99, 0, 0, 0).charge(0, 't', 1), 163520 / 110);
        Due.is("50 kilograms to 50", Plants.hot(50, 0, 0, 0).charge(0, 'o', 50), 91000 / 110);
        Due.is("40 hot kilograms to none", Plants.ladled(40).pourBack(0, 1), 60200 / 50);
        Foundry x = Plants.ladled(40);
        x.advance(1);
        // 40 kilograms of 1490 degrees to 60 of 1500 degrees.
        Due.is("40 kilograms to 60", x.pourBack(0, 0), 164600 / 110);
        Due.is("the least temperature", new Foundry().charge(0, 'c', 50), 20);
        Due.is("the greatest temperature", Plants.ladled(40).pourBack(0, 0), 1500);
    }

    private static void solidCharges() {
        Foundry x = Plants.hot(0, 100, 0, 0);
        x.tap(0, 0, 40);
        x.addMould(20);
        x.pour(0, 0);
        x.breakOut(0);
        Due.is("an ingot from hot metal leaves 20 degrees", x.meltDown(0, 1), 20);
        x.pour(0, 0);
        x.breakOut(0);
        // 20 kilograms of 20 degrees to 60 of 1500.
        Due.is("an ingot to hot metal", x.meltDown(0, 0), 105400 / 90);
        Due.is("a charge to a hot furnace", Plants.hot(0, 0, 0, 0).charge(0, 'o', 10), 760);
        Due.is("a charge to a cold furnace", new Foundry().charge(0, 'o', 10), 20);
    }

    private static void emptiedFurnace() {
        Foundry x = Plants.hot(0, 40, 0, 0);
        x.tap(0, 0, 40);
        Due.is("emptied by tap", x.furnaceTotal(0), 0);
        Due.is("the temperature after tap", x.furnaceTemperature(0), 1500);
        Foundry y = Plants.hot(0, 10, 0, 40);
        y.skim(0);
        Due.is("emptied by skim", y.furnaceTotal(0), 0);
        Due.is("the temperature after skim", y.furnaceTemperature(0), 1500);
    }

    // ladles

    private static void ladles() {
        test("There are the ladles 0 to 2.", TermsBoundaries::threeLadles);
        test("A ladle contains a mixture of at most 40 kilograms, initially nothing, and has a temperature from 20 to 1500, "
            + "initially 20.", TermsBoundaries::limitsOfALadle);
        test("When a mass m of the temperature s is added to a ladle that contains the mass M and has the temperature T, its "
            + "temperature becomes (T * M + s * m) / (M + m).", TermsBoundaries::addedToALadle);
        test("A ladle that becomes empty has the temperature 20.", TermsBoundaries::emptiedLadle);
    }

    private static void threeLadles() {
        Foundry x = Plants.hot(0, 4, 0, 0);
        for (int i = 0; i < 3; i++) {
            Due.is("tap", x.tap(0, i, 1), 1500);
            Due.is("ladleTotal", x.ladleTotal(i), 1);
            Due.is("ladleTemperature", x.ladleTemperature(i), 1500);
            Due.is("pouringMinutes", x.pouringMinutes(i), 126);
            Due.is("addMould", x.addMould(1), i);
            Due.is("pour", x.pour(i, i), 0);
            x.breakOut(i);
            x.meltDown(0, 1);
            Due.is("tap from furnace 0", x.tap(0, i, 1), 1500);
            Due.is("pourBack", x.pourBack(i, 0), 1500);
        }
        for (int i : Refusals.outside(3)) {
            Due.refused("ladleTotal(" + i + ")", Refusals.INDEX, () -> x.ladleTotal(i));
            Due.refused("pourBack(" + i + ", 0)", Refusals.INDEX, () -> x.pourBack(i, 0));
        }
    }

    private static void limitsOfALadle() {
        for (int i = 0; i < 3; i++) {
            Foundry x = new Foundry();
            Due.is("the mass at first", Plants.inLadle(x, i), "0 0 0 0");
            Due.is("the temperature at first", x.ladleTemperature(i), 20);
        }
        Due.is("the greatest mass", Plants.ladled(40).ladleTotal(0), 40);
        Foundry x = Plants.ladled(39);
        x.tap(0, 0, 1);
        Due.is("the greatest mass of two taps", x.ladleTotal(0), 40);
        Refusals.refused("41 kilograms", Refusals.UNSUPPORTED, () -> Plants.ladled(40), y -> y.tap(0, 0, 1));
        Due.is("the greatest temperature", Plants.ladled(40).ladleTemperature(0), 1500);
        x.advance(149);
        Due.is("the least temperature", x.ladleTemperature(0), 20);
    }

    private static void addedToALadle() {
        Due.is("to none", Plants.hot(0, 9, 0, 0).tap(0, 0, 9), 1500);
        Foundry x = Plants.ladled(39);
        x.advance(1);
        Due.is("1 kilogram to 39", x.tap(0, 0, 1), (1490 * 39 + 1500) / 40);
        Foundry y = Plants.ladled(1);
        y.advance(1);
        Due.is("39 kilograms to 1", y.tap(0, 0, 39), (1490 + 1500 * 39) / 40);
        y.pourBack(0, 1);
        Due.is("to none again", y.tap(0, 0, 1), 1500);
    }

    private static void emptiedLadle() {
        Foundry x = Plants.ladled(7);
        x.addMould(7);
        x.pour(0, 0);
        Due.is("emptied by pour", x.ladleTotal(0), 0);
        Due.is("the temperature after pour", x.ladleTemperature(0), 20);
        Foundry y = Plants.ladled(7);
        y.pourBack(0, 1);
        Due.is("emptied by pourBack", y.ladleTotal(0), 0);
        Due.is("the temperature after pourBack", y.ladleTemperature(0), 20);
        Foundry z = Plants.ladled(8);
        z.addMould(7);
        z.pour(0, 0);
        Due.is("one kilogram left keeps its temperature", z.ladleTemperature(0), 1500);
    }

    // taking a part, skimming

    private static void takingAndSkimming() {
        test("When a mass n is taken from a mixture of the mass M, first the mass of each material times n, divided by M, is "
            + "taken.", TermsBoundaries::wholeParts);
        test("What is still missing is taken kilogram by kilogram, each from the material of which most is left at that "
            + "moment; of several such materials, from the first one.", TermsBoundaries::missingKilograms);
        test("When a furnace is skimmed, all of its ore becomes slag, and in addition a quarter of the mass of this ore is "
            + "taken as slag from the metal of which the furnace contains most; of several such metals, from the first one; "
            + "but not more than there is of it.", TermsBoundaries::skimmed);
        test("The temperature does not change.", TermsBoundaries::skimmingLeavesTheTemperature);
    }

    private static void taken(int mass, int copper, int tin, int lead, int ore, String want) {
        Foundry x = Plants.hot(copper, tin, lead, ore);
        String what = mass + " of " + Plants.inFurnace(x, 0);
        x.tap(0, 0, mass);
        Due.is(what, Plants.inLadle(x, 0), want);
        Due.is("what is left of " + what, x.furnaceTotal(0), copper + tin + lead + ore - mass);
        Due.is("the stock after " + what, x.stock('c') + " " + x.stock('t') + " " + x.stock('l') + " " + x.stock('o'),
            copper + " " + tin + " " + lead + " " + ore);
    }

    private static void wholeParts() {
        taken(20, 10, 5, 3, 2, "10 5 3 2");
        taken(1, 0, 1, 0, 0, "0 1 0 0");
        taken(10, 10, 20, 30, 40, "1 2 3 4");
        taken(40, 10, 20, 30, 40, "4 8 12 16");
        taken(4, 25, 25, 25, 25, "1 1 1 1");
        // Half of each, though one alone has as much.
        taken(20, 30, 0, 0, 10, "15 0 0 5");
        taken(20, 10, 30, 0, 0, "5 15 0 0");
        taken(20, 0, 10, 30, 0, "0 5 15 0");
        taken(20, 0, 0, 10, 30, "0 0 5 15");
        Foundry x = Plants.hot(10, 10, 10, 1);
        x.tap(0, 0, 31);
        x.addMould(31);
        x.pour(0, 0);
        Due.is("all into a mould", Plants.inMould(x, 0), "10 10 10 1");
        Due.is("nothing is left", Plants.inLadle(x, 0), "0 0 0 0");
    }

    private static void missingKilograms() {
        // Nothing is taken at first, and all four have as much.
        taken(1, 25, 25, 25, 25, "1 0 0 0");
        taken(1, 0, 7, 7, 7, "0 1 0 0");
        taken(1, 0, 0, 5, 5, "0 0 1 0");
        // Each kilogram leaves another material with most.
        taken(3, 1, 1, 1, 1, "1 1 1 0");
        taken(5, 2, 2, 2, 0, "2 2 1 0");
        // 8 and 9 are taken at first; then 1 of each is left, though there was more tin.
        taken(18, 9, 10, 0, 0, "9 9 0 0");
        // 0, 0, 0 and 1 are taken at first; the ore is still most.
        taken(2, 0, 2, 3, 9, "0 0 0 2");
        taken(16, 10, 10, 10, 1, "6 5 5 0");
        Foundry x = Plants.hot(10, 10, 10, 1);
        x.tap(0, 0, 31);
        x.addMould(16);
        x.pour(0, 0);
        Due.is("a part into a mould", Plants.inMould(x, 0), "6 5 5 0");
        Due.is("what the ladle keeps", Plants.inLadle(x, 0), "4 5 5 1");
    }

    private static void skimmed(int copper, int tin, int lead, int ore, int want, String left) {
        Foundry x = Plants.hot(copper, tin, lead, ore);
        String what = "skim of " + Plants.inFurnace(x, 0);
        Due.is(what, x.skim(0), want);
        Due.is("what is left by " + what, Plants.inFurnace(x, 0), left);
        int slag = x.slag('c') + x.slag('t') + x.slag('l') + x.slag('o');
        Due.is("the slag of " + what, slag, want);
        Due.is("the slag of ore of " + what, x.slag('o'), ore);
    }

    private static void skimmed() {
        skimmed(9, 0, 0, 1, 1, "9 0 0 0");
        skimmed(9, 0, 0, 3, 3, "9 0 0 0");
        skimmed(9, 0, 0, 4, 5, "8 0 0 0");
        skimmed(9, 0, 0, 7, 8, "8 0 0 0");
        skimmed(9, 0, 0, 8, 10, "7 0 0 0");
        // The metal of which there is most, and the first of several.
        skimmed(5, 5, 5, 8, 10, "3 5 5 0");
        skimmed(4, 5, 5, 4, 5, "4 4 5 0");
        skimmed(5, 4, 5, 4, 5, "4 4 5 0");
        skimmed(4, 5, 6, 4, 5, "4 5 5 0");
        // Not more than there is of it, and nothing from another metal.
        skimmed(0, 2, 1, 40, 42, "0 0 1 0");
        skimmed(0, 9, 9, 40, 49, "0 0 9 0");
        skimmed(0, 10, 0, 40, 50, "0 0 0 0");
        skimmed(0, 0, 11, 40, 50, "0 0 1 0");
        skimmed(0, 0, 0, 40, 40, "0 0 0 0");
    }

    private static void skimmingLeavesTheTemperature() {
        Foundry x = Plants.hot(9, 9, 9, 40);
        x.skim(0);
        Due.is("the temperature of what is left", x.furnaceTemperature(0), 1500);
        Foundry y = Plants.hot(0, 0, 0, 1);
        y.skim(0);
        Due.is("the temperature of nothing", y.furnaceTemperature(0), 1500);
    }

    // moulds, ingots, grades

    private static void mouldsAndIngots() {
        test("At most 6 moulds exist; they have the indices 0 to n - 1 in the order in which they were added.",
            TermsBoundaries::sixMoulds);
        test("A mould has a volume from 1 to 40 kilograms and is empty or filled.", TermsBoundaries::volumes);
        test("An ingot is what is broken out of a mould.", TermsBoundaries::leastAndGreatestIngot);
        test("At most 12 ingots are in the store; they have the indices 0 to n - 1 in the order in which they came; when an "
            + "ingot is melted down, the indices of the ingots that came later decrease by 1.", TermsBoundaries::twelveIngots);
        test("The share of a material in an ingot is 1000 times its mass, divided by the mass of the ingot.",
            TermsBoundaries::shares);
        test("The grade of an ingot is x if its share of ore is greater than 50; otherwise c (copper) if its share of copper "
            + "is at least 950; otherwise b (bronze) if its share of copper is at least 800 and its share of tin at least "
            + "100; otherwise s (solder) if its share of tin is at least 500 and its share of lead at least 300; otherwise x.",
            TermsBoundaries::grades);
    }

    private static void sixMoulds() {
        Foundry x = Plants.moulds(6);
        Due.is("mouldCount", x.mouldCount(), 6);
        for (int i = 0; i < 6; i++) {
            Due.is("volume(" + i + ")", x.volume(i), i + 1);
        }
        for (int i : Refusals.outside(6)) {
            Due.refused("volume(" + i + ")", Refusals.INDEX, () -> x.volume(i));
        }
        Refusals.refused("a seventh mould", Refusals.STATE, () -> Plants.moulds(6), y -> y.addMould(1));
        Refusals.refused("volume(5) of 5", Refusals.INDEX, () -> Plants.moulds(5), y -> y.volume(5));
    }

    private static void volumes() {
        Foundry x = new Foundry();
        for (int volume : new int[] {1, 40}) {
            int mould = x.addMould(volume);
            Due.is("volume", x.volume(mould), volume);
            Due.is("a new mould", x.isFilled(mould), false);
        }
        for (int volume : new int[] {0, 41, -1, Integer.MIN_VALUE, Integer.MAX_VALUE}) {
            Refusals.refused("addMould(" + volume + ")", Refusals.ARGUMENT, Foundry::new, y -> y.addMould(volume));
        }
        Foundry y = Plants.ladled(40);
        y.addMould(1);
        y.pour(0, 0);
        Due.is("the least mould when filled", y.isFilled(0), true);
        y.breakOut(0);
        Due.is("the least mould when emptied", y.isFilled(0), false);
        Due.is("the volume stays", y.volume(0), 1);
    }

    private static void leastAndGreatestIngot() {
        for (int mass : new int[] {1, 40}) {
            Foundry x = Plants.withIngot(0, mass, 0, 0);
            Due.is("an ingot of " + mass, Plants.inIngot(x, 0), "0 " + mass + " 0 0");
        }
        Due.is("an ingot of four materials", Plants.inIngot(Plants.withIngot(7, 20, 10, 3), 0), "7 20 10 3");
    }

    private static void melted(int count, int ingot, String want) {
        Foundry x = Plants.store(count);
        x.meltDown(ingot, 1);
        StringBuilder left = new StringBuilder();
        for (int i = 0; i < x.ingotCount(); i++) {
            left.append(x.ingotMass(i, 't'));
        }
        Due.is("the ingots when " + ingot + " of " + count + " is melted", left.toString(), want);
        Due.refused("the ingot behind them", Refusals.INDEX, () -> x.ingotMass(count - 1, 't'));
    }

    private static void twelveIngots() {
        Foundry x = Plants.store(12);
        Due.is("ingotCount", x.ingotCount(), 12);
        Due.is("the first to come", x.ingotMass(0, 't'), 1);
        Due.is("the second to come", x.ingotMass(1, 't'), 2);
        Due.is("the last to come", x.ingotMass(11, 't'), 3);
        for (int i : Refusals.outside(12)) {
            Due.refused("grade(" + i + ")", Refusals.INDEX, () -> x.grade(i));
        }
        x.pour(0, 2);
        Due.refused("a thirteenth", Refusals.STATE, () -> x.breakOut(2));
        melted(3, 0, "23");
        melted(3, 1, "13");
        melted(3, 2, "12");
        melted(1, 0, "");
        melted(12, 0, "23333333333");
        melted(12, 11, "12333333333");
    }

    private static void shares(int copper, int tin, int lead, int ore, String want) {
        Foundry x = Plants.withIngot(copper, tin, lead, ore);
        Due.is("the shares of " + Plants.inIngot(x, 0), x.share(0, 'c') + " " + x.share(0, 't') + " " + x.share(0, 'l')
            + " " + x.share(0, 'o'), want);
    }

    private static void shares() {
        shares(1, 0, 0, 0, "1000 0 0 0");
        shares(0, 0, 0, 40, "0 0 0 1000");
        shares(39, 1, 0, 0, "975 25 0 0");
        shares(1, 1, 1, 0, "333 333 333 0");
        shares(1, 2, 3, 1, "142 285 428 142");
        shares(38, 1, 0, 0, "974 25 0 0");
    }

    private static void grade(int copper, int tin, int lead, int ore, char want) {
        Foundry x = Plants.withIngot(copper, tin, lead, ore);
        Due.is("the grade of " + Plants.inIngot(x, 0), x.grade(0), want);
    }

    private static void grades() {
        // The share of ore is 50, then 51: 2 of 40, 2 of 39.
        grade(38, 0, 0, 2, 'c');
        grade(37, 0, 0, 2, 'x');
        grade(34, 4, 0, 2, 'b');
        grade(33, 4, 0, 2, 'x');
        grade(0, 24, 14, 2, 's');
        grade(0, 24, 13, 2, 'x');
        // The share of copper is 950, then 948; with tin it is bronze below that, if there is enough of it.
        grade(38, 2, 0, 0, 'c');
        grade(19, 0, 1, 0, 'c');
        grade(37, 2, 0, 0, 'x');
        // The share of copper is 800, then 794.
        grade(32, 8, 0, 0, 'b');
        grade(4, 1, 0, 0, 'b');
        grade(31, 8, 0, 0, 'x');
        // The share of tin is 100, then 96.
        grade(36, 4, 0, 0, 'b');
        grade(28, 3, 0, 0, 'x');
        // The share of tin is 500, then 487; of lead 300, then 297.
        grade(0, 20, 20, 0, 's');
        grade(0, 19, 20, 0, 'x');
        grade(0, 28, 12, 0, 's');
        grade(0, 26, 11, 0, 'x');
        grade(8, 20, 12, 0, 's');
        // What is none of them.
        grade(0, 40, 0, 0, 'x');
        grade(0, 0, 40, 0, 'x');
        grade(0, 0, 0, 1, 'x');
    }

    // time

    private static void time() {
        test("Time is counted in minutes from 0.", TermsBoundaries::timeFromZero);
        test("In one minute, the time increases by 1, the temperature of each furnace, empty or not, increases by 10 times "
            + "its fire level and decreases by 5, and the temperature of each ladle that is not empty decreases by 10; "
            + "temperatures less than 20 become 20, and those greater than 1500 become 1500.", TermsBoundaries::oneMinute);
    }

    private static void timeFromZero() {
        Foundry x = new Foundry();
        Due.is("time at first", x.time(), 0);
        x.advance(1);
        Due.is("time after the least advance", x.time(), 1);
        x.advance(200);
        Due.is("time after the greatest advance", x.time(), 201);
    }

    private static void afterAMinute(Foundry x, int fire, int want) {
        String what = "from " + x.furnaceTemperature(0) + " degrees with a fire of " + fire;
        x.setFire(0, fire);
        x.advance(1);
        Due.is(what, x.furnaceTemperature(0), want);
    }

    /** An empty furnace 0 of 20 + 45 * minutes degrees. */
    private static Foundry heated(int minutes) {
        Foundry x = new Foundry();
        x.setFire(0, 5);
        x.advance(minutes);
        return x;
    }

    private static void oneMinute() {
        afterAMinute(new Foundry(), 0, 20);
        afterAMinute(new Foundry(), 1, 25);
        afterAMinute(new Foundry(), 5, 65);
        afterAMinute(Plants.cold(0, 0, 50, 50), 5, 65);
        afterAMinute(Plants.tinAt22(0), 0, 20);
        afterAMinute(Plants.tinAt22(1), 0, 22);
        afterAMinute(Plants.tinAt22(0), 1, 27);
        // 1460 degrees: 45 more are too many by 5, 35 more are not.
        afterAMinute(heated(32), 5, 1500);
        afterAMinute(heated(32), 4, 1495);
        afterAMinute(heated(33), 5, 1500);
        afterAMinute(heated(200), 1, 1500);
        afterAMinute(heated(200), 0, 1495);
        Foundry x = new Foundry();
        x.advance(200);
        afterAMinute(x, 1, 25);
        afterAMinute(x, 0, 20);
        ladlesAfterAMinute();
    }

    private static void ladlesAfterAMinute() {
        Foundry x = Plants.ladled(1);
        x.advance(1);
        Due.is("a ladle of 1500 degrees", x.ladleTemperature(0), 1490);
        Due.is("an empty ladle", x.ladleTemperature(1), 20);
        x.advance(146);
        Due.is("a ladle after 147 minutes", x.ladleTemperature(0), 30);
        x.advance(1);
        Due.is("a ladle of 30 degrees", x.ladleTemperature(0), 20);
        x.advance(1);
        Due.is("a ladle of 20 degrees", x.ladleTemperature(0), 20);
        Foundry y = Plants.tinAt21(44);
        y.tap(0, 2, 1);
        y.advance(22);
        Due.is("a ladle of 241 degrees after 22 minutes", y.ladleTemperature(2), 21);
        y.advance(1);
        Due.is("a ladle of 21 degrees", y.ladleTemperature(2), 20);
    }

    // changes, exceptions

    private static void changesAndExceptions() {
        test("A change is a call of charge, setFire, skim, tap, pourBack, addMould, pour, breakOut, meltDown, advance or "
            + "runScript that returns normally, even if the state is the same afterwards.", ChangesBoundaries::whatIsAChange);
        test("The latest 8 changes can be undone, the latest one first.", ScriptsBoundaries::eightChanges);
        test("Undo and the snapshot cover everything except the script buffer, the error position, the index of the failed "
            + "command, the output text and the snapshot itself.", ScriptsBoundaries::whatUndoCovers);
        test("A method that throws an exception changes nothing unless its description says otherwise.",
            ChangesBoundaries::refusedCallsChangeNothing);
        test("If several exceptions apply, the one that is listed first is thrown.",
            ChangesBoundaries::theFirstOfSeveralExceptions);
    }

    private static void namesNoBoundary() {
        Sentences.unbounded("What it is", "A simulator of a small foundry: furnaces are charged with metals and ore, heated "
            + "and skimmed, molten metal is tapped into ladles and poured into moulds, and ingots are graded by their "
            + "composition.");
        String[] plain = {"The class computes melting points and heating times in two ways each and offers predictions, "
            + "rankings, a small command language, undo and a snapshot.", "It is not thread-safe.", "Materials.",
            "Furnaces.", "Ladles.", "Taking a part.", "Skimming.", "Moulds and ingots.", "Grades.", "One minute.",
            "Scripts.", "Changes.", "Exceptions.", "```text", "```",
            "Ahead of the calls `charge`, `setFire`, `skim`, `tap`, `pourBack`, `addMould`, `pour`, `breakOut`, "
                + "`meltDown`, `advance` the interface says: changes.",
            "Ahead of the calls `furnaceMass`, `furnaceTotal`, `furnaceTemperature`, `fire`, `meltingPoint`, "
                + "`meltingPointByDifferences`, `isMolten`, `minutesUntilMolten`, `minutesUntilMoltenByDivision`, "
                + "`furnaceByTemperature` the interface says: furnaces.",
            "Ahead of the calls `ladleMass`, `ladleTotal`, `ladleTemperature`, `pouringMinutes`, `mouldCount`, `volume`, "
                + "`isFilled`, `mouldMass`, `ingotCount`, `ingotMass`, `share`, `grade`, `ingotByMass` the interface says: "
                + "ladles, moulds, ingots.",
            "Ahead of the calls `time`, `charged`, `slag`, `stock`, `stockByAccounts`, `meanTemperature`, `slagRate`, "
                + "`isConsistent` the interface says: totals and checks.",
            "Ahead of the calls `renderFurnace`, `renderGrades`, `outputAt`, `type`, `runScript`, `errorPosition`, "
                + "`failedCommand`, `undo`, `save`, `restore` the interface says: output and scripts."};
        for (String sentence : plain) {
            Sentences.unbounded("Terms", sentence);
        }
    }
}
