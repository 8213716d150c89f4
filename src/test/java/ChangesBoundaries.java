import java.util.NoSuchElementException;

/** The boundary cases that promises 1 to 11 name, and those of the terms about changes and exceptions. */
final class ChangesBoundaries {
    private static final Class<IndexOutOfBoundsException> INDEX = Refusals.INDEX;
    private static final Class<IllegalArgumentException> ARGUMENT = Refusals.ARGUMENT;
    private static final Class<NoSuchElementException> MISSING = Refusals.MISSING;
    private static final Class<IllegalStateException> STATE = Refusals.STATE;
    private static final Class<UnsupportedOperationException> UNSUPPORTED = Refusals.UNSUPPORTED;

    private static final String NO_FURNACE = "there is no such furnace";
    private static final String NO_MOULD = "there is no such mould";
    private static final String NOT_MOLTEN = "the mixture is not molten";
    private static final String OVER_100 = "the furnace would contain more than 100 kilograms";

    private ChangesBoundaries() {
    }

    static void run() {
        Sentences.promise(1, "Creates a foundry at time 0 without moulds and ingots.", ChangesBoundaries::newObject);
        charge();
        setFire();
        skim();
        tap();
        pourBack();
        addMould();
        pour();
        breakOut();
        meltDown();
        advance();
    }

    private static void newObject() {
        Foundry x = new Foundry();
        Due.is("time", x.time(), 0);
        Due.is("mouldCount", x.mouldCount(), 0);
        Due.is("ingotCount", x.ingotCount(), 0);
        Due.refused("mould 0", INDEX, () -> x.volume(0));
        Due.refused("ingot 0", INDEX, () -> x.grade(0));
        Due.refused("ingot of rank 0", MISSING, () -> x.ingotByMass(0));
        for (char m : Plants.MATERIALS.toCharArray()) {
            Due.is("charged", x.charged(m), 0);
            Due.is("slag", x.slag(m), 0);
            Due.is("stock", x.stock(m), 0);
        }
        Due.refused("nothing to undo", MISSING, () -> x.undo());
    }

    // promise 2

    private static void charge() {
        Sentences.refusal(2, INDEX, NO_FURNACE, () -> {
            for (int i : Refusals.outside(3)) {
                Refusals.refused("charge(" + i + ", 'c', 1)", INDEX, Foundry::new, x -> x.charge(i, 'c', 1));
            }
            Due.is("charge(0, 'c', 1)", new Foundry().charge(0, 'c', 1), 20);
            Due.is("charge(2, 'c', 1)", new Foundry().charge(2, 'c', 1), 20);
        });
        Sentences.refusal(2, ARGUMENT, "there is no such material, or the mass is not between 1 and 50",
            ChangesBoundaries::chargeArguments);
        Sentences.refusal(2, UNSUPPORTED, OVER_100, ChangesBoundaries::chargeToTheBrim);
        Sentences.promise(2, "Returns the temperature of the furnace after the call.", () -> {
            Due.is("the least charge", Plants.hot(0, 0, 0, 0).charge(0, 'l', 1), 1365);
            Due.is("the greatest charge", Plants.hot(0, 0, 0, 0).charge(0, 'l', 50), 266);
            Due.is("of a cold furnace", new Foundry().charge(0, 'l', 50), 20);
        });
    }

    private static void chargeArguments() {
        for (char material : Refusals.NO_MATERIALS) {
            Refusals.refused("material " + (int) material, ARGUMENT, Foundry::new, x -> x.charge(0, material, 1));
        }
        for (int mass : new int[] {0, 51, -1, Integer.MIN_VALUE, Integer.MAX_VALUE}) {
            Refusals.refused("a mass of " + mass, ARGUMENT, Foundry::new, x -> x.charge(0, 'o', mass));
        }
        for (char material : Plants.MATERIALS.toCharArray()) {
            Foundry x = new Foundry();
            x.charge(0, material, 1);
            Due.is("a mass of 1", x.furnaceMass(0, material), 1);
            x.charge(0, material, 50);
            Due.is("a mass of 50", x.furnaceMass(0, material), 51);
            Due.is("charged", x.charged(material), 51);
        }
    }

    private static void chargeToTheBrim() {
        Refusals.refused("1 to 100", UNSUPPORTED, () -> Plants.hot(50, 0, 0, 50), x -> x.charge(0, 't', 1));
        Refusals.refused("50 to 51", UNSUPPORTED, () -> Plants.hot(51, 0, 0, 0), x -> x.charge(0, 't', 50));
        Refusals.refused("2 to 99", UNSUPPORTED, () -> Plants.cold(99, 0, 0, 0), x -> x.charge(0, 'c', 2));
        Foundry x = Plants.cold(99, 0, 0, 0);
        x.charge(0, 'c', 1);
        Due.is("1 to 99", x.furnaceTotal(0), 100);
        Foundry y = Plants.cold(50, 0, 0, 0);
        y.charge(0, 'o', 50);
        Due.is("50 to 50", y.furnaceTotal(0), 100);
        Due.is("50 to another", y.charge(1, 'o', 50), 20);
    }

    // promise 3

    private static void setFire() {
        Sentences.refusal(3, INDEX, NO_FURNACE, () -> {
            for (int i : Refusals.outside(3)) {
                Refusals.refused("setFire(" + i + ", 1)", INDEX, Foundry::new, x -> x.setFire(i, 1));
            }
        });
        Sentences.refusal(3, ARGUMENT, "the level is not between 0 and 5", () -> {
            for (int level : new int[] {-1, 6, Integer.MIN_VALUE, Integer.MAX_VALUE}) {
                Refusals.refused("setFire(0, " + level + ")", ARGUMENT, Plants::busy, x -> x.setFire(0, level));
            }
            for (int level = 0; level <= 5; level++) {
                Foundry x = new Foundry();
                x.setFire(2, level);
                Due.is("fire(2)", x.fire(2), level);
            }
        });
        Sentences.promise(3, "Returns the previous fire level.", () -> {
            Foundry x = new Foundry();
            Due.is("the first call", x.setFire(0, 5), 0);
            Due.is("the greatest", x.setFire(0, 5), 5);
            Due.is("the same again", x.setFire(0, 0), 5);
            Due.is("the least", x.setFire(0, 1), 0);
            Due.is("another furnace", x.setFire(1, 1), 0);
        });
    }

    // promise 4

    private static void skim() {
        Sentences.refusal(4, INDEX, NO_FURNACE, () -> {
            for (int i : Refusals.outside(3)) {
                Refusals.refused("skim(" + i + ")", INDEX, () -> Plants.hot(1, 0, 0, 1), x -> x.skim(i));
            }
        });
        Sentences.refusal(4, MISSING, "the furnace contains no ore", () -> {
            Refusals.refused("an empty furnace", MISSING, Foundry::new, x -> x.skim(0));
            Refusals.refused("molten metals", MISSING, () -> Plants.hot(30, 30, 30, 0), x -> x.skim(0));
            Refusals.refused("cold metals", MISSING, () -> Plants.cold(30, 30, 30, 0), x -> x.skim(0));
            Foundry x = Plants.hot(1, 0, 0, 1);
            Due.is("one kilogram of ore", x.skim(0), 1);
            Due.refused("once more", MISSING, () -> x.skim(0));
        });
        Sentences.refusal(4, STATE, NOT_MOLTEN, () -> {
            Refusals.refused("ore at 1199 degrees", STATE, () -> ore(true), x -> x.skim(0));
            Refusals.refused("cold ore", STATE, () -> Plants.cold(0, 0, 0, 50), x -> x.skim(0));
            Due.is("ore at 1200 degrees", ore(false).skim(0), 1);
        });
        Sentences.promise(4, "Returns the mass of the slag.", () -> {
            Due.is("without a quarter", Plants.hot(9, 0, 0, 3).skim(0), 3);
            Due.is("with a quarter", Plants.hot(9, 0, 0, 4).skim(0), 5);
            Due.is("without a metal", Plants.hot(0, 0, 0, 100).skim(0), 100);
            Due.is("with all of a metal", Plants.hot(0, 3, 0, 97).skim(0), 100);
        });
    }

    /** A kilogram of ore of 1200 degrees, or of the one degree less that a charge at 25 degrees leads to. */
    private static Foundry ore(boolean oneLess) {
        Foundry x = new Foundry();
        x.setFire(0, 1);
        if (oneLess) {
            x.advance(1);
        }
        x.charge(0, 'o', 1);
        x.advance(200);
        x.advance(oneLess ? 35 : 36);
        Due.is("the temperature of the ore", x.furnaceTemperature(0), oneLess ? 1199 : 1200);
        return x;
    }

    // promise 5

    private static void tap() {
        Sentences.refusal(5, INDEX, "there is no such furnace or no such ladle", () -> {
            for (int i : Refusals.outside(3)) {
                Refusals.refused("furnace " + i, INDEX, () -> Plants.hot(0, 9, 0, 0), x -> x.tap(i, 0, 1));
                Refusals.refused("ladle " + i, INDEX, () -> Plants.hot(0, 9, 0, 0), x -> x.tap(0, i, 1));
            }
            Due.is("ladle 2", Plants.hot(0, 9, 0, 0).tap(0, 2, 1), 1500);
            Due.is("furnace 2", Plants.molten(2, 0, 9, 0, 0).tap(2, 0, 1), 245);
        });
        Sentences.refusal(5, ARGUMENT, "the mass is not between 1 and 40", () -> {
            for (int mass : new int[] {0, 41, -1, Integer.MIN_VALUE, Integer.MAX_VALUE}) {
                Refusals.refused("a mass of " + mass, ARGUMENT, () -> Plants.hot(0, 50, 0, 0), x -> x.tap(0, 0, mass));
            }
            Foundry x = Plants.hot(0, 41, 0, 0);
            x.tap(0, 0, 1);
            x.tap(0, 1, 40);
            Due.is("a mass of 1", x.ladleTotal(0), 1);
            Due.is("a mass of 40", x.ladleTotal(1), 40);
        });
        Sentences.refusal(5, MISSING, "the furnace contains less", () -> {
            Refusals.refused("1 of nothing", MISSING, () -> Plants.hot(0, 0, 0, 0), x -> x.tap(0, 0, 1));
            Refusals.refused("10 of 9", MISSING, () -> Plants.hot(2, 3, 4, 0), x -> x.tap(0, 0, 10));
            Due.is("9 of 9", Plants.hot(2, 3, 4, 0).tap(0, 0, 9), 1500);
        });
        Sentences.refusal(5, STATE, "the mixture in the furnace is not molten", () -> {
            Refusals.refused("tin at 231 degrees", STATE, () -> Plants.tinAt21(42), x -> x.tap(0, 0, 1));
            Refusals.refused("cold tin", STATE, () -> Plants.cold(0, 9, 0, 0), x -> x.tap(0, 0, 9));
            Due.is("tin at 232 degrees", Plants.tinAt22(42).tap(0, 0, 1), 232);
        });
        Sentences.refusal(5, UNSUPPORTED, "the ladle would contain more than 40 kilograms", () -> {
            Refusals.refused("1 to 40", UNSUPPORTED, () -> Plants.ladled(40), x -> x.tap(0, 0, 1));
            Refusals.refused("2 to 39", UNSUPPORTED, () -> Plants.ladled(39), x -> x.tap(0, 0, 2));
            Refusals.refused("40 to 1", UNSUPPORTED, () -> Plants.ladled(1), x -> x.tap(0, 0, 40));
            Due.is("1 to 39", Plants.ladled(39).tap(0, 0, 1), 1500);
            Due.is("39 to 1", Plants.ladled(1).tap(0, 0, 39), 1500);
            Due.is("40 to another", Plants.ladled(40).tap(0, 1, 40), 1500);
        });
        Sentences.promise(5, "Returns the temperature of the ladle after the call.", () -> {
            Due.is("an empty ladle", Plants.tinAt22(42).tap(0, 0, 10), 232);
            Foundry x = Plants.ladled(1);
            x.advance(1);
            Due.is("a cooler ladle", x.tap(0, 0, 1), 1495);
        });
    }

    // promise 6

    private static void pourBack() {
        Sentences.refusal(6, INDEX, "there is no such ladle or no such furnace", () -> {
            for (int i : Refusals.outside(3)) {
                Refusals.refused("ladle " + i, INDEX, () -> Plants.ladled(9), x -> x.pourBack(i, 0));
                Refusals.refused("furnace " + i, INDEX, () -> Plants.ladled(9), x -> x.pourBack(0, i));
            }
        });
        Sentences.refusal(6, MISSING, "the ladle is empty", () -> {
            Refusals.refused("a ladle that was never filled", MISSING, Foundry::new, x -> x.pourBack(0, 0));
            Foundry x = Plants.ladled(1);
            x.pourBack(0, 1);
            Due.is("the least ladle", x.furnaceTotal(1), 1);
            Due.refused("an emptied ladle", MISSING, () -> x.pourBack(0, 1));
        });
        Sentences.refusal(6, UNSUPPORTED, OVER_100, () -> {
            Refusals.refused("40 to 61", UNSUPPORTED, () -> backTo(40, 61), x -> x.pourBack(0, 1));
            Refusals.refused("1 to 100", UNSUPPORTED, () -> backTo(1, 100), x -> x.pourBack(0, 1));
            Due.is("40 to 60", backTo(40, 60).pourBack(0, 1), (20 * 70 + 1500 * 40) / 110);
            Due.is("1 to 99", backTo(1, 99).pourBack(0, 1), (20 * 109 + 1500) / 110);
        });
        Sentences.promise(6, "Pours everything from a ladle, molten or not, into a furnace.", () -> {
            Foundry x = Plants.ladled(40);
            x.advance(200);
            Due.is("a ladle of 20 degrees", x.pourBack(0, 1), 20);
            Due.is("everything is in the furnace", Plants.inFurnace(x, 1), "0 40 0 0");
            Due.is("nothing is in the ladle", Plants.inLadle(x, 0), "0 0 0 0");
            Foundry y = Plants.hot(1, 2, 3, 4);
            y.tap(0, 0, 10);
            y.pourBack(0, 1);
            Due.is("four materials are in the furnace", Plants.inFurnace(y, 1), "1 2 3 4");
            Due.is("none is in the ladle", Plants.inLadle(y, 0), "0 0 0 0");
        });
        Sentences.promise(6, "Returns the temperature of the furnace after the call.", () -> {
            Due.is("an empty furnace", Plants.ladled(10).pourBack(0, 2), 760);
            Due.is("a hot furnace", Plants.ladled(10).pourBack(0, 0), 1500);
        });
    }

    /** A hot ladle of this mass, and a cold furnace 1 of that. */
    private static Foundry backTo(int ladle, int furnace) {
        Foundry x = Plants.ladled(ladle);
        Plants.charge(x, 1, furnace, 0, 0, 0);
        return x;
    }

    // promise 7

    private static void addMould() {
        Sentences.refusal(7, ARGUMENT, "the volume is not between 1 and 40", () -> {
            for (int volume : new int[] {0, 41, -1, Integer.MIN_VALUE, Integer.MAX_VALUE}) {
                Refusals.refused("a volume of " + volume, ARGUMENT, Plants::busy, x -> x.addMould(volume));
            }
            Foundry x = new Foundry();
            Due.is("a volume of 1", x.addMould(1), 0);
            Due.is("a volume of 40", x.addMould(40), 1);
        });
        Sentences.refusal(7, STATE, "there are 6 moulds", () -> {
            Refusals.refused("a seventh mould", STATE, () -> Plants.moulds(6), x -> x.addMould(1));
            Due.is("a sixth mould", Plants.moulds(5).addMould(1), 5);
        });
        Sentences.promise(7, "Adds an empty mould.", () -> {
            Foundry x = Plants.ladled(40);
            x.addMould(1);
            x.pour(0, 0);
            x.undo();
            x.undo();
            x.addMould(2);
            Due.is("where a filled one was undone", x.isFilled(0), false);
            Due.is("its masses", Plants.inMould(x, 0), "0 0 0 0");
        });
        Sentences.promise(7, "Returns the index of the mould.", () -> {
            Foundry x = new Foundry();
            for (int i = 0; i < 6; i++) {
                Due.is("addMould", x.addMould(40), i);
            }
        });
    }

    // promise 8

    private static void pour() {
        Sentences.refusal(8, INDEX, "there is no such ladle or no such mould", ChangesBoundaries::pourIndices);
        Sentences.refusal(8, STATE, "the mould is filled", () -> {
            Refusals.refused("a filled mould", STATE, () -> poured(20, 1), x -> x.pour(0, 0));
            Foundry x = poured(20, 1);
            x.breakOut(0);
            Due.is("an emptied mould", x.pour(0, 0), 18);
        });
        Sentences.refusal(8, MISSING, "the ladle contains less than the volume of the mould", () -> {
            Refusals.refused("39 for 40", MISSING, () -> withMould(39, 40), x -> x.pour(0, 0));
            Refusals.refused("nothing for 1", MISSING, () -> withMould(39, 1), x -> x.pour(1, 0));
            Due.is("40 for 40", withMould(40, 40).pour(0, 0), 0);
            Due.is("1 for 1", withMould(1, 1).pour(0, 0), 0);
        });
        Sentences.refusal(8, UNSUPPORTED, "the mixture in the ladle is not molten", () -> {
            Refusals.refused("tin at 231 degrees", UNSUPPORTED, () -> cooled(Plants.tinAt21(44)), x -> x.pour(0, 0));
            Due.is("tin at 232 degrees", cooled(Plants.tinAt22(44)).pour(0, 0), 4);
        });
        Sentences.promise(8, "Fills a mould from a ladle: as much as its volume is taken from the ladle.", () -> {
            for (int volume : new int[] {1, 39, 40}) {
                Foundry x = poured(40, volume);
                Due.is("in the mould", Plants.inMould(x, 0), "0 " + volume + " 0 0");
                Due.is("in the ladle", x.ladleTotal(0), 40 - volume);
                Due.is("isFilled", x.isFilled(0), true);
            }
        });
        Sentences.promise(8, "Returns the mass that is left in the ladle.", () -> {
            Due.is("nothing is left", withMould(40, 40).pour(0, 0), 0);
            Due.is("one is left", withMould(40, 39).pour(0, 0), 1);
            Due.is("39 are left", withMould(40, 1).pour(0, 0), 39);
        });
    }

    private static void pourIndices() {
        for (int i : Refusals.outside(3)) {
            Refusals.refused("ladle " + i, INDEX, () -> withMould(9, 9), x -> x.pour(i, 0));
        }
        for (int i : Refusals.outside(1)) {
            Refusals.refused("mould " + i, INDEX, () -> withMould(9, 9), x -> x.pour(0, i));
        }
        Refusals.refused("mould 0 of none", INDEX, () -> Plants.ladled(9), x -> x.pour(0, 0));
    }

    /** A ladle of 1500 degrees with this mass, and an empty mould. */
    private static Foundry withMould(int mass, int volume) {
        Foundry x = Plants.ladled(mass);
        x.addMould(volume);
        return x;
    }

    private static Foundry poured(int mass, int volume) {
        Foundry x = withMould(mass, volume);
        x.pour(0, 0);
        return x;
    }

    /** 5 kilograms go into a ladle, which loses 10 degrees, and there is a mould of 1. */
    private static Foundry cooled(Foundry x) {
        x.addMould(1);
        x.tap(0, 0, 5);
        x.advance(1);
        return x;
    }

    // promise 9

    private static void breakOut() {
        Sentences.refusal(9, INDEX, NO_MOULD, () -> {
            for (int i : Refusals.outside(1)) {
                Refusals.refused("mould " + i, INDEX, () -> poured(9, 9), x -> x.breakOut(i));
            }
            Refusals.refused("mould 0 of none", INDEX, Foundry::new, x -> x.breakOut(0));
            Refusals.refused("mould 6", INDEX, () -> Plants.moulds(6), x -> x.breakOut(6));
        });
        Sentences.refusal(9, MISSING, "the mould is empty", () -> {
            Refusals.refused("a new mould", MISSING, () -> Plants.moulds(1), x -> x.breakOut(0));
            Foundry x = poured(1, 1);
            x.breakOut(0);
            Due.refused("an emptied mould", MISSING, () -> x.breakOut(0));
        });
        Sentences.refusal(9, STATE, "there are 12 ingots", () -> {
            Refusals.refused("a thirteenth", STATE, () -> filled(12), x -> x.breakOut(2));
            Due.is("a twelfth", filled(11).breakOut(2), 11);
            Foundry x = filled(12);
            x.meltDown(0, 1);
            Due.is("a twelfth again", x.breakOut(2), 11);
        });
        Sentences.promise(9, "Breaks the ingot out of a filled mould, which is empty afterwards.", () -> {
            Foundry x = poured(40, 40);
            x.breakOut(0);
            Due.is("isFilled", x.isFilled(0), false);
            Due.is("in the mould", Plants.inMould(x, 0), "0 0 0 0");
            Due.is("the ingot", Plants.inIngot(x, 0), "0 40 0 0");
            Due.is("mouldCount", x.mouldCount(), 1);
        });
        Sentences.promise(9, "Returns the index of the ingot.", () -> {
            Foundry x = withMould(12, 1);
            for (int i = 0; i < 12; i++) {
                x.pour(0, 0);
                Due.is("breakOut", x.breakOut(0), i);
            }
        });
    }

    /** As Plants.store, and mould 2 is filled once more. */
    static Foundry filled(int ingots) {
        Foundry x = Plants.store(ingots);
        x.pour(0, 2);
        return x;
    }

    // promise 10

    private static void meltDown() {
        Sentences.refusal(10, INDEX, "there is no such ingot or no such furnace", () -> {
            for (int i : Refusals.outside(3)) {
                Refusals.refused("ingot " + i + " of 3", INDEX, () -> Plants.store(3), x -> x.meltDown(i, 1));
                Refusals.refused("furnace " + i, INDEX, () -> Plants.store(3), x -> x.meltDown(0, i));
            }
            Refusals.refused("ingot 0 of none", INDEX, Foundry::new, x -> x.meltDown(0, 0));
            Refusals.refused("ingot 12 of 12", INDEX, () -> Plants.store(12), x -> x.meltDown(12, 1));
            Due.is("the last of 12", Plants.store(12).meltDown(11, 1), 20);
        });
        Sentences.refusal(10, UNSUPPORTED, OVER_100, () -> {
            Refusals.refused("1 to 100", UNSUPPORTED, () -> storeAnd(100), x -> x.meltDown(0, 1));
            Refusals.refused("2 to 99", UNSUPPORTED, () -> storeAnd(99), x -> x.meltDown(1, 1));
            Foundry x = storeAnd(99);
            x.meltDown(0, 1);
            Due.is("1 to 99", x.furnaceTotal(1), 100);
            Foundry y = storeAnd(98);
            y.meltDown(1, 1);
            Due.is("2 to 98", y.furnaceTotal(1), 100);
        });
        Sentences.promise(10, "Melts an ingot down: it is added to a furnace as a solid charge.", () -> {
            Foundry x = Plants.store(1);
            // A kilogram of 20 degrees to 60 of 1500 degrees.
            Due.is("to a hot furnace", x.meltDown(0, 0), (1500 * 70 + 20) / 71);
            Due.is("ingotCount", x.ingotCount(), 0);
            Due.is("the furnace", Plants.inFurnace(x, 0), "0 61 0 0");
            Due.is("what has been charged", x.charged('t'), 100);
            Foundry y = Plants.withIngot(4, 3, 2, 1);
            y.meltDown(0, 1);
            Due.is("an ingot of four materials", Plants.inFurnace(y, 1), "4 3 2 1");
        });
        Sentences.promise(10, "Returns the temperature of the furnace after the call.", () -> {
            Due.is("an empty cold furnace", Plants.store(1).meltDown(0, 2), 20);
            Foundry x = Plants.store(3);
            x.setFire(2, 5);
            x.advance(1);
            Due.is("an empty furnace of 65 degrees", x.meltDown(2, 2), (65 * 10 + 20 * 3) / 13);
        });
    }

    /** Three ingots, and a cold furnace 1 of this mass. */
    private static Foundry storeAnd(int mass) {
        Foundry x = Plants.store(3);
        Plants.charge(x, 1, mass, 0, 0, 0);
        return x;
    }

    // promise 11

    private static void advance() {
        Sentences.refusal(11, ARGUMENT, "the number of minutes is not between 1 and 200", () -> {
            for (int minutes : new int[] {0, 201, -1, Integer.MIN_VALUE, Integer.MAX_VALUE}) {
                Refusals.refused(minutes + " minutes", ARGUMENT, Plants::busy, x -> x.advance(minutes));
            }
            Foundry x = new Foundry();
            x.advance(1);
            Due.is("1 minute", x.time(), 1);
            x.advance(200);
            Due.is("200 minutes", x.time(), 201);
        });
        Sentences.promise(11, "Returns the number of furnaces with a molten mixture afterwards.", () -> {
            Due.is("none", new Foundry().advance(1), 0);
            Foundry x = new Foundry();
            for (int i = 0; i < 3; i++) {
                x.setFire(i, 5);
            }
            Due.is("three hot and empty", x.advance(200), 0);
            for (int i = 0; i < 3; i++) {
                x.charge(i, 't', 1);
                Due.is("molten ones", x.advance(1), i + 1);
            }
            Due.is("just molten afterwards", Plants.tinAt22(41).advance(1), 1);
            Due.is("not quite molten afterwards", Plants.tinAt21(41).advance(1), 0);
            Foundry y = Plants.tinAt22(42);
            y.setFire(0, 0);
            Due.is("no more molten afterwards", y.advance(1), 0);
        });
    }

    // the terms about changes and exceptions

    private static void isOneChange(String what, Refusals.Start start, Refusals.Call call) {
        Foundry x = start.make();
        x.save();
        x.restore();
        call.on(x);
        Due.is("undo of " + what, Due.answer(() -> x.undo()), "0");
        Due.is("after undo of " + what, Plants.digest(x), Plants.digest(start.make()));
    }

    private static void isNoChange(String what, Refusals.Call call) {
        Foundry x = Plants.busy();
        x.save();
        x.restore();
        Due.thrownBy(() -> call.on(x));
        Due.refused("undo after " + what, MISSING, () -> x.undo());
    }

    static void whatIsAChange() {
        isOneChange("charge", Plants::busy, x -> x.charge(0, 'c', 1));
        isOneChange("setFire", Plants::busy, x -> x.setFire(0, 1));
        isOneChange("setFire to the same", Plants::busy, x -> x.setFire(0, 5));
        isOneChange("setFire of a new object", Foundry::new, x -> x.setFire(2, 0));
        isOneChange("skim", () -> Plants.hot(5, 4, 3, 8), x -> x.skim(0));
        isOneChange("tap", Plants::busy, x -> x.tap(0, 1, 1));
        isOneChange("pourBack", Plants::busy, x -> x.pourBack(0, 2));
        isOneChange("addMould", Plants::busy, x -> x.addMould(1));
        isOneChange("pour", Plants::busy, x -> x.pour(0, 1));
        isOneChange("breakOut", Plants::busy, x -> x.breakOut(0));
        isOneChange("meltDown", Plants::busy, x -> x.meltDown(0, 2));
        isOneChange("advance", Plants::busy, x -> x.advance(1));
        isOneChange("runScript", Plants::busy, x -> x.runScript());
        isOneChange("runScript of the same state", Foundry::new, x -> Plants.run(x, "fire 0 0;fire 1 0"));
        isNoChange("charge that throws", x -> x.charge(0, 'c', 0));
        isNoChange("advance that throws", x -> x.advance(0));
        isNoChange("runScript of another form", x -> Plants.run(x, ";"));
        isNoChange("runScript of a command that throws", x -> Plants.run(x, ";skim 0"));
        isNoChange("a query", x -> x.isConsistent());
        isNoChange("type", x -> x.type('a'));
        isNoChange("renderGrades", x -> x.renderGrades());
        isNoChange("save", x -> x.save());
        isNoChange("restore", x -> x.restore());
    }

    private static void leaves(Class<? extends RuntimeException> want, Refusals.Call call, String what) {
        Refusals.refused(what, want, Plants::busy, call);
    }

    static void refusedCallsChangeNothing() {
        leaves(INDEX, x -> x.charge(3, 'c', 1), "charge(3, 'c', 1)");
        leaves(ARGUMENT, x -> x.charge(0, 'x', 1), "charge(0, 'x', 1)");
        leaves(ARGUMENT, x -> x.charge(0, 'c', 51), "charge(0, 'c', 51)");
        leaves(UNSUPPORTED, x -> x.charge(1, 'c', 31), "charge(1, 'c', 31)");
        leaves(INDEX, x -> x.setFire(3, 1), "setFire(3, 1)");
        leaves(ARGUMENT, x -> x.setFire(0, 6), "setFire(0, 6)");
        leaves(MISSING, x -> x.skim(0), "skim(0)");
        leaves(STATE, x -> x.skim(1), "skim(1)");
        leaves(ARGUMENT, x -> x.tap(0, 0, 41), "tap(0, 0, 41)");
        leaves(MISSING, x -> x.tap(2, 1, 1), "tap(2, 1, 1)");
        leaves(STATE, x -> x.tap(1, 1, 1), "tap(1, 1, 1)");
        leaves(UNSUPPORTED, x -> x.tap(0, 0, 9), "tap(0, 0, 9)");
        leaves(MISSING, x -> x.pourBack(1, 0), "pourBack(1, 0)");
        leaves(UNSUPPORTED, x -> x.pourBack(0, 1), "pourBack(0, 1)");
        leaves(ARGUMENT, x -> x.addMould(41), "addMould(41)");
        leaves(INDEX, x -> x.pour(0, 2), "pour(0, 2)");
        leaves(STATE, x -> x.pour(0, 0), "pour(0, 0)");
        leaves(MISSING, x -> x.pour(1, 1), "pour(1, 1)");
        leaves(MISSING, x -> x.breakOut(1), "breakOut(1)");
        leaves(INDEX, x -> x.meltDown(1, 0), "meltDown(1, 0)");
        leaves(INDEX, x -> x.meltDown(0, 3), "meltDown(0, 3)");
        leaves(ARGUMENT, x -> x.advance(201), "advance(201)");
        leaves(MISSING, x -> x.meltingPoint(2), "meltingPoint(2)");
        leaves(MISSING, x -> x.minutesUntilMolten(1), "minutesUntilMolten(1)");
        leaves(MISSING, x -> x.pouringMinutes(1), "pouringMinutes(1)");
        leaves(MISSING, x -> x.ingotByMass(1), "ingotByMass(1)");
        leaves(INDEX, x -> x.renderFurnace(3), "renderFurnace(3)");
        leaves(INDEX, x -> x.outputAt(20), "outputAt(20)");
        leaves(ARGUMENT, x -> x.type((char) 127), "type");
    }

    /** Furnace 0 and ladle 0 are full, furnace 1 is cold, furnace 2 and ladle 1 are empty, mould 0 of six is filled. */
    private static Foundry full() {
        Foundry x = Plants.ladled(40);
        for (int i = 0; i < 6; i++) {
            x.addMould(i + 1);
        }
        x.pour(0, 0);
        x.tap(0, 0, 1);
        Plants.charge(x, 0, 0, 41, 0, 0);
        Plants.charge(x, 1, 9, 0, 0, 0);
        return x;
    }

    private static Foundry cooledDown(Foundry x) {
        x.advance(200);
        return x;
    }

    private static void first(Class<? extends RuntimeException> want, Refusals.Call call, String what) {
        Refusals.refused(what, want, ChangesBoundaries::full, call);
    }

    static void theFirstOfSeveralExceptions() {
        first(INDEX, x -> x.charge(3, 'x', 0), "no furnace, material and mass");
        first(ARGUMENT, x -> x.charge(0, 'x', 1), "no material, and a full furnace");
        first(ARGUMENT, x -> x.charge(0, 'c', 51), "too much mass for a charge and the furnace");
        first(INDEX, x -> x.setFire(3, 6), "no furnace and no level");
        first(MISSING, x -> x.skim(1), "no ore in what is cold");
        first(INDEX, x -> x.tap(3, 0, 0), "no furnace and no mass");
        first(INDEX, x -> x.tap(2, 3, 41), "no ladle, too much mass, and none in the furnace");
        first(ARGUMENT, x -> x.tap(2, 0, 41), "too much mass, none in the furnace, and a full ladle");
        first(ARGUMENT, x -> x.tap(1, 0, 0), "too little mass and a cold furnace");
        first(MISSING, x -> x.tap(1, 0, 10), "too little in a cold furnace, and a full ladle");
        first(STATE, x -> x.tap(1, 0, 9), "a cold furnace and a full ladle");
        first(INDEX, x -> x.pourBack(1, 3), "an empty ladle and no furnace");
        first(INDEX, x -> x.pourBack(3, 0), "no ladle and a full furnace");
        first(ARGUMENT, x -> x.addMould(0), "no volume and six moulds");
        first(INDEX, x -> x.pour(3, 0), "no ladle and a filled mould");
        first(INDEX, x -> x.pour(1, 6), "an empty ladle and no mould");
        first(STATE, x -> x.pour(1, 0), "a filled mould and an empty ladle");
        first(INDEX, x -> x.meltDown(0, 0), "no ingot and a full furnace");
        first(INDEX, x -> x.furnaceMass(3, 'x'), "furnaceMass without a furnace and a material");
        first(INDEX, x -> x.ladleMass(3, 'x'), "ladleMass without a ladle and a material");
        first(INDEX, x -> x.mouldMass(6, 'x'), "mouldMass without a mould and a material");
        first(INDEX, x -> x.ingotMass(0, 'x'), "ingotMass without an ingot and a material");
        first(INDEX, x -> x.share(0, 'x'), "share without an ingot and a material");
        Refusals.refused("a filled mould and a cold ladle", STATE, () -> cooledDown(full()), x -> x.pour(0, 0));
        Refusals.refused("too little in a cold ladle", MISSING, () -> cooledDown(withMould(9, 10)), x -> x.pour(0, 0));
        Refusals.refused("an empty mould and a full store", MISSING, () -> Plants.store(12), x -> x.breakOut(0));
        Refusals.refused("no furnace for an ingot", INDEX, () -> Plants.store(1), x -> x.meltDown(0, 3));
        Refusals.refused("no character and a full buffer", ARGUMENT, ChangesBoundaries::typed60, x -> x.type((char) 31));
        Foundry y = new Foundry();
        Plants.type(y, "skim 0;wait 0;x");
        Due.refused("a command that fails and another form", ARGUMENT, () -> y.runScript());
        Due.refused("failedCommand", MISSING, () -> y.failedCommand());
    }

    private static Foundry typed60() {
        Foundry x = new Foundry();
        for (int i = 0; i < 60; i++) {
            x.type('a');
        }
        return x;
    }
}
