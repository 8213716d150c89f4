import java.util.NoSuchElementException;

/** The boundary cases that promises 12 to 42 name, each sentence with a test of its own. */
final class QueriesBoundaries {
    private static final Class<IndexOutOfBoundsException> INDEX = Refusals.INDEX;
    private static final Class<IllegalArgumentException> ARGUMENT = Refusals.ARGUMENT;
    private static final Class<NoSuchElementException> MISSING = Refusals.MISSING;

    private static final String NO_FURNACE = "there is no such furnace";
    private static final String NO_LADLE = "there is no such ladle";
    private static final String NO_MOULD = "there is no such mould";
    private static final String NO_INGOT = "there is no such ingot";
    private static final String NO_MATERIAL = "there is no such material";
    private static final String NO_RANK = "there is no such rank";
    private static final String WILL_NOT_MELT = "the furnace is empty, or its fire level is 0 and the mixture is not molten";

    private interface Asked {
        Object ask(Foundry x, int index);
    }

    private interface AskedOfMaterial {
        int ask(Foundry x, char material);
    }

    private QueriesBoundaries() {
    }

    static void run() {
        furnaceIndices();
        ladleMouldAndIngotIndices();
        materials();
        meltingPoints();
        minutes();
        ranks();
        pouringMinutes();
        counts();
        shareAndGrade();
        totals();
        rates();
        consistency();
    }

    // indices and materials

    /** The indices 0 to count - 1 are answered, and those outside are refused. */
    private static void index(int promise, String condition, Refusals.Start start, int count, Asked asked) {
        Sentences.refusal(promise, INDEX, condition, () -> {
            for (int i : Refusals.outside(count)) {
                Refusals.refused("index " + i, INDEX, start, x -> asked.ask(x, i));
            }
            for (int i = 0; i < count; i++) {
                int inside = i;
                RuntimeException thrown = Due.thrownBy(() -> asked.ask(start.make(), inside));
                Due.is("index " + i + " is refused", thrown != null && thrown.getClass() == INDEX, false);
            }
            Foundry none = new Foundry();
            if (!condition.equals(NO_FURNACE) && !condition.equals(NO_LADLE)) {
                Due.refused("index 0 of none", INDEX, () -> asked.ask(none, 0));
            }
        });
    }

    private static void furnaceIndices() {
        index(12, NO_FURNACE, Plants::busy, 3, (x, i) -> x.furnaceMass(i, 'c'));
        index(13, NO_FURNACE, Plants::busy, 3, (x, i) -> x.furnaceTotal(i));
        index(14, NO_FURNACE, Plants::busy, 3, (x, i) -> x.furnaceTemperature(i));
        index(15, NO_FURNACE, Plants::busy, 3, (x, i) -> x.fire(i));
        index(16, NO_FURNACE, Plants::busy, 3, (x, i) -> x.meltingPoint(i));
        index(17, NO_FURNACE, Plants::busy, 3, (x, i) -> x.meltingPointByDifferences(i));
        index(18, NO_FURNACE, Plants::busy, 3, (x, i) -> x.isMolten(i));
        index(19, NO_FURNACE, Plants::busy, 3, (x, i) -> x.minutesUntilMolten(i));
        index(20, NO_FURNACE, Plants::busy, 3, (x, i) -> x.minutesUntilMoltenByDivision(i));
    }

    private static void ladleMouldAndIngotIndices() {
        index(22, NO_LADLE, Plants::busy, 3, (x, i) -> x.ladleMass(i, 'c'));
        index(23, NO_LADLE, Plants::busy, 3, (x, i) -> x.ladleTotal(i));
        index(24, NO_LADLE, Plants::busy, 3, (x, i) -> x.ladleTemperature(i));
        index(25, NO_LADLE, Plants::busy, 3, (x, i) -> x.pouringMinutes(i));
        index(27, NO_MOULD, () -> Plants.moulds(6), 6, (x, i) -> x.volume(i));
        index(28, NO_MOULD, () -> Plants.moulds(5), 5, (x, i) -> x.isFilled(i));
        index(29, NO_MOULD, () -> Plants.moulds(1), 1, (x, i) -> x.mouldMass(i, 'c'));
        index(31, NO_INGOT, () -> Plants.store(12), 12, (x, i) -> x.ingotMass(i, 'c'));
        index(32, NO_INGOT, () -> Plants.store(11), 11, (x, i) -> x.share(i, 'c'));
        index(33, NO_INGOT, () -> Plants.store(1), 1, (x, i) -> x.grade(i));
    }

    /** The four letters are answered, all of them differently, and no other. */
    private static void material(int promise, Refusals.Start start, String want, AskedOfMaterial asked) {
        Sentences.refusal(promise, ARGUMENT, NO_MATERIAL, () -> {
            for (char letter : Refusals.NO_MATERIALS) {
                Refusals.refused("material " + (int) letter, ARGUMENT, start, x -> asked.ask(x, letter));
            }
            Foundry x = start.make();
            Due.is("of the four letters", asked.ask(x, 'c') + " " + asked.ask(x, 't') + " " + asked.ask(x, 'l') + " "
                + asked.ask(x, 'o'), want);
        });
    }

    /** Furnace 0, ladle 0, mould 0 and ingot 0 hold 1, 2, 3 and 4 kilograms of the four materials. */
    private static Foundry everywhere() {
        Foundry x = Plants.hot(4, 8, 12, 16);
        x.tap(0, 0, 30);
        x.addMould(10);
        x.pour(0, 0);
        x.breakOut(0);
        x.pour(0, 0);
        return x;
    }

    private static Foundry skimmed() {
        Foundry x = Plants.hot(1, 20, 3, 24);
        x.skim(0);
        return x;
    }

    private static void materials() {
        material(12, QueriesBoundaries::everywhere, "1 2 3 4", (x, m) -> x.furnaceMass(0, m));
        material(22, QueriesBoundaries::everywhere, "1 2 3 4", (x, m) -> x.ladleMass(0, m));
        material(29, QueriesBoundaries::everywhere, "1 2 3 4", (x, m) -> x.mouldMass(0, m));
        material(31, QueriesBoundaries::everywhere, "1 2 3 4", (x, m) -> x.ingotMass(0, m));
        material(32, QueriesBoundaries::everywhere, "100 200 300 400", (x, m) -> x.share(0, m));
        material(36, QueriesBoundaries::everywhere, "4 8 12 16", (x, m) -> x.charged(m));
        material(37, QueriesBoundaries::skimmed, "0 6 0 24", (x, m) -> x.slag(m));
        material(38, QueriesBoundaries::everywhere, "4 8 12 16", (x, m) -> x.stock(m));
        material(39, QueriesBoundaries::skimmed, "1 14 3 0", (x, m) -> x.stockByAccounts(m));
        Sentences.promise(12, "Returns the mass of a material in a furnace.", () -> {
            Due.is("an empty furnace", Plants.inFurnace(new Foundry(), 2), "0 0 0 0");
            Due.is("a full furnace", Plants.inFurnace(Plants.cold(100, 0, 0, 0), 0), "100 0 0 0");
        });
        Sentences.promise(13, "Returns the mass of the mixture in a furnace.", () -> {
            Due.is("an empty furnace", new Foundry().furnaceTotal(0), 0);
            Due.is("a full furnace", Plants.cold(25, 24, 26, 25).furnaceTotal(0), 100);
        });
        Sentences.promise(23, "Returns the mass of the mixture in a ladle.", () -> {
            Due.is("an empty ladle", new Foundry().ladleTotal(0), 0);
            Due.is("a full ladle", Plants.ladled(40).ladleTotal(0), 40);
        });
        Sentences.promise(29, "Returns the mass, 0 for an empty mould.", () -> {
            Due.is("a new mould", Plants.inMould(Plants.moulds(6), 5), "0 0 0 0");
            Foundry x = everywhere();
            Due.is("a filled mould", Plants.inMould(x, 0), "1 2 3 4");
            x.breakOut(0);
            Due.is("an emptied mould", Plants.inMould(x, 0), "0 0 0 0");
        });
    }

    // melting

    private static void meltingPoints() {
        Sentences.refusal(16, MISSING, "the furnace is empty", () -> {
            Refusals.refused("a new furnace", MISSING, Foundry::new, x -> x.meltingPoint(0));
            Refusals.refused("a hot furnace", MISSING, () -> Plants.hot(0, 0, 0, 0), x -> x.meltingPoint(0));
            Refusals.refused("an emptied furnace", MISSING, QueriesBoundaries::emptied, x -> x.meltingPoint(0));
            Due.is("a kilogram", Plants.cold(0, 0, 1, 0).meltingPoint(0), 327);
        });
        Sentences.refusal(17, MISSING, "the furnace is empty", () -> {
            Refusals.refused("a new furnace", MISSING, Foundry::new, x -> x.meltingPointByDifferences(0));
            Refusals.refused("a hot furnace", MISSING, () -> Plants.hot(0, 0, 0, 0), x -> x.meltingPointByDifferences(0));
            Refusals.refused("an emptied furnace", MISSING, QueriesBoundaries::emptied, x -> x.meltingPointByDifferences(0));
            Due.is("a kilogram", Plants.cold(0, 0, 1, 0).meltingPointByDifferences(0), 327);
        });
        Sentences.promise(17, "Returns the same number as meltingPoint, computed from the melting point of tin and the "
            + "differences of the other melting points from it.", () -> {
                for (int tin = 0; tin <= 100; tin++) {
                    Foundry x = Plants.cold((100 - tin) / 3, tin, (101 - tin) / 3, (102 - tin) / 3);
                    Due.is(tin + " of tin", x.meltingPointByDifferences(0), x.meltingPoint(0));
                    Due.is("the mass", x.furnaceTotal(0), 100);
                }
            });
        Sentences.promise(18, "Returns true if it is molten, false also for an empty furnace.", () -> {
            Due.is("tin at 232 degrees", Plants.tinAt22(42).isMolten(0), true);
            Due.is("tin at 231 degrees", Plants.tinAt21(42).isMolten(0), false);
            Due.is("a new furnace", new Foundry().isMolten(0), false);
            Due.is("a hot empty furnace", Plants.hot(0, 0, 0, 0).isMolten(0), false);
            Due.is("an emptied furnace", emptied().isMolten(0), false);
        });
    }

    private static Foundry emptied() {
        Foundry x = Plants.hot(0, 0, 0, 8);
        x.skim(0);
        return x;
    }

    private static Foundry withFire(Foundry x, int level) {
        x.setFire(0, level);
        return x;
    }

    private static void minutes() {
        Sentences.refusal(19, MISSING, WILL_NOT_MELT, () -> willNotMelt((x, i) -> x.minutesUntilMolten(i)));
        Sentences.refusal(20, MISSING, WILL_NOT_MELT, () -> willNotMelt((x, i) -> x.minutesUntilMoltenByDivision(i)));
        Sentences.promise(19, "Returns the number of minutes, 0 if it is molten now.",
            () -> numbersOfMinutes((x, i) -> x.minutesUntilMolten(i)));
        Sentences.promise(20, "Returns the same number as minutesUntilMolten, found by a division.",
            () -> numbersOfMinutes((x, i) -> x.minutesUntilMoltenByDivision(i)));
        Sentences.promise(19, "Predicts after how many minutes the mixture in a furnace is molten if nothing else happens, "
            + "found minute by minute.", QueriesBoundaries::predictionComesTrue);
    }

    private static void willNotMelt(Asked asked) {
        Refusals.refused("a new furnace", MISSING, Foundry::new, x -> asked.ask(x, 0));
        Refusals.refused("an empty furnace with a fire", MISSING, () -> withFire(new Foundry(), 5), x -> asked.ask(x, 0));
        Refusals.refused("a hot empty furnace", MISSING, () -> Plants.hot(0, 0, 0, 0), x -> asked.ask(x, 0));
        Refusals.refused("cold tin", MISSING, () -> Plants.cold(0, 1, 0, 0), x -> asked.ask(x, 0));
        Refusals.refused("tin at 231 degrees", MISSING, () -> withFire(Plants.tinAt21(42), 0), x -> asked.ask(x, 0));
        Due.is("tin at 232 degrees", Due.answer(() -> asked.ask(withFire(Plants.tinAt22(42), 0), 0)), "0");
        Due.is("tin at 231 degrees with a fire", Due.answer(() -> asked.ask(withFire(Plants.tinAt21(42), 1), 0)), "1");
    }

    private static void minutesOf(Asked asked, String what, Foundry x, int want) {
        Due.is(what, Due.answer(() -> asked.ask(x, 0)), "" + want);
    }

    private static void numbersOfMinutes(Asked asked) {
        minutesOf(asked, "tin at 232 degrees", Plants.tinAt22(42), 0);
        minutesOf(asked, "tin at 1500 degrees", Plants.hot(0, 1, 0, 0), 0);
        minutesOf(asked, "tin at 231 degrees", Plants.tinAt21(42), 1);
        minutesOf(asked, "tin at 231 degrees with the greatest fire", withFire(Plants.tinAt21(42), 5), 1);
        minutesOf(asked, "tin at 227 degrees", Plants.tinAt22(41), 1);
        minutesOf(asked, "tin at 226 degrees", Plants.tinAt21(41), 2);
        // 5, 15, 25, 35 and 45 degrees a minute, from 20 to the melting point.
        minutesOf(asked, "ore with the least fire", withFire(Plants.cold(0, 0, 0, 100), 1), 236);
        minutesOf(asked, "ore with a fire of 2", withFire(Plants.cold(0, 0, 0, 1), 2), 79);
        minutesOf(asked, "copper with a fire of 2", withFire(Plants.cold(1, 0, 0, 0), 2), 71);
        minutesOf(asked, "copper with a fire of 3", withFire(Plants.cold(1, 0, 0, 0), 3), 43);
        minutesOf(asked, "lead with a fire of 4", withFire(Plants.cold(0, 0, 1, 0), 4), 9);
        minutesOf(asked, "tin with the greatest fire", withFire(Plants.cold(0, 1, 0, 0), 5), 5);
    }

    private static void predictionComesTrue() {
        for (int level = 1; level <= 5; level++) {
            for (int i = 0; i < 4; i++) {
                Foundry x = new Foundry();
                x.charge(0, "ctlo".charAt(i), 1);
                x.setFire(0, level);
                int minutes = x.minutesUntilMolten(0);
                if (minutes > 201) {
                    x.advance(minutes - 201);
                }
                x.advance(Math.min(minutes - 1, 200));
                Due.is("a minute before it", x.isMolten(0), false);
                Due.is("then minutesUntilMolten", x.minutesUntilMolten(0), 1);
                x.advance(1);
                Due.is("then", x.isMolten(0), true);
                Due.is("at last minutesUntilMolten", x.minutesUntilMolten(0), 0);
            }
        }
    }

    // ranks

    private static void ranks() {
        Sentences.refusal(21, MISSING, NO_RANK, () -> {
            for (int rank : Refusals.outside(3)) {
                Refusals.refused("rank " + rank, MISSING, Foundry::new, x -> x.furnaceByTemperature(rank));
            }
        });
        Sentences.promise(21, "Returns the furnace at a rank when furnaces are sorted by temperature in descending order, "
            + "then by mass in descending order, then by number in ascending order.", QueriesBoundaries::furnaceOrder);
        Sentences.refusal(34, MISSING, NO_RANK, () -> {
            Refusals.refused("rank 0 of none", MISSING, Foundry::new, x -> x.ingotByMass(0));
            for (int rank : Refusals.outside(12)) {
                Refusals.refused("rank " + rank, MISSING, () -> Plants.store(12), x -> x.ingotByMass(rank));
            }
            Refusals.refused("rank 1 of one", MISSING, () -> Plants.store(1), x -> x.ingotByMass(1));
            Due.is("rank 11", Plants.store(12).ingotByMass(11), 0);
        });
        Sentences.promise(34, "Returns the ingot at a rank when ingots are sorted by mass in descending order, then by mass "
            + "of copper in descending order, then by index in ascending order.", QueriesBoundaries::ingotOrder);
    }

    private static void furnaces(String what, Foundry x, String want) {
        Due.is(what, "" + x.furnaceByTemperature(0) + x.furnaceByTemperature(1) + x.furnaceByTemperature(2), want);
    }

    private static void furnaceOrder() {
        Foundry x = new Foundry();
        furnaces("all alike", x, "012");
        x.charge(2, 't', 1);
        furnaces("one kilogram more", x, "201");
        x.charge(1, 'o', 2);
        furnaces("two of another material", x, "120");
        x.charge(2, 't', 1);
        furnaces("the same mass", x, "120");
        x.charge(0, 't', 2);
        furnaces("the same mass in all", x, "012");
        // A charge brings furnace 0 from 25 degrees to 21: one degree more goes before any mass.
        Foundry y = new Foundry();
        y.setFire(0, 1);
        y.advance(1);
        y.charge(0, 't', 20);
        y.charge(1, 't', 50);
        y.charge(2, 't', 50);
        y.charge(2, 't', 1);
        Due.is("furnaceTemperature", y.furnaceTemperature(0), 21);
        furnaces("one degree more", y, "021");
    }

    private static void ingotOrder() {
        Foundry x = Plants.store(12);
        StringBuilder order = new StringBuilder();
        for (int rank = 0; rank < 12; rank++) {
            order.append(x.ingotByMass(rank)).append(' ');
        }
        Due.is("by mass and index", order.toString(), "2 3 4 5 6 7 8 9 10 11 1 0 ");
        Foundry alike = Plants.ladled(12);
        alike.addMould(1);
        order.setLength(0);
        for (int i = 0; i < 12; i++) {
            alike.pour(0, 0);
            alike.breakOut(0);
        }
        for (int rank = 0; rank < 12; rank++) {
            order.append(alike.ingotByMass(rank)).append(' ');
        }
        Due.is("by index", order.toString(), "0 1 2 3 4 5 6 7 8 9 10 11 ");
        // Ingots of 3 with 1 of copper, of 3 with 2, of 4 without and of 3 with 2 again.
        Foundry y = new Foundry();
        String[] mixtures = {"1 2", "2 1", "0 4", "2 1"};
        castEach(y, mixtures);
        order.setLength(0);
        for (int rank = 0; rank < 4; rank++) {
            order.append(y.ingotByMass(rank)).append(' ');
        }
        Due.is("by copper", order.toString(), "2 1 3 0 ");
    }

    /** Casts an ingot of each mixture of copper and tin, each molten in a furnace that is empty before and after. */
    private static void castEach(Foundry x, String[] mixtures) {
        x.setFire(1, 5);
        for (int i = 0; i < mixtures.length; i++) {
            int copper = mixtures[i].charAt(0) - '0';
            int tin = mixtures[i].charAt(2) - '0';
            Plants.charge(x, 1, copper, tin, 0, 0);
            x.advance(40);
            x.tap(1, 0, copper + tin);
            x.addMould(copper + tin);
            x.pour(0, i);
            x.breakOut(i);
            Due.is("ingot " + i, Plants.inIngot(x, i), copper + " " + tin + " 0 0");
        }
    }

    // ladles, moulds, ingots

    private static void pouringMinutes() {
        Sentences.refusal(25, MISSING, "the mixture in the ladle is not molten", () -> {
            Refusals.refused("an empty ladle", MISSING, () -> Plants.ladled(1), x -> x.pouringMinutes(1));
            Refusals.refused("tin at 231 degrees", MISSING, () -> ladle(Plants.tinAt21(44), 1), x -> x.pouringMinutes(0));
            Due.is("tin at 232 degrees", Due.answer(() -> ladle(Plants.tinAt22(44), 1).pouringMinutes(0)), "0");
        });
        Sentences.promise(25, "Returns the greatest number of minutes after which it is still molten, 0 or more.", () -> {
            Due.is("tin at 232 degrees", ladle(Plants.tinAt22(42), 0).pouringMinutes(0), 0);
            Due.is("tin at 241 degrees", ladle(Plants.tinAt21(44), 0).pouringMinutes(0), 0);
            Due.is("tin at 242 degrees", ladle(Plants.tinAt22(44), 0).pouringMinutes(0), 1);
            Due.is("tin at 251 degrees", ladle(Plants.tinAt21(46), 0).pouringMinutes(0), 1);
            Due.is("tin at 252 degrees", ladle(Plants.tinAt22(46), 0).pouringMinutes(0), 2);
            Foundry x = Plants.ladled(40);
            Due.is("tin at 1500 degrees", x.pouringMinutes(0), 126);
            x.advance(126);
            Due.is("after 126 minutes", Due.answer(() -> x.pouringMinutes(0)), "0");
            x.advance(1);
            Due.is("after 127 minutes", Due.answer(() -> x.pouringMinutes(0)), "NoSuchElementException");
        });
        Sentences.promise(24, "Returns the temperature of a ladle.", () -> {
            Due.is("an empty ladle", new Foundry().ladleTemperature(2), 20);
            Due.is("the hottest ladle", Plants.ladled(1).ladleTemperature(0), 1500);
        });
    }

    /** A kilogram from furnace 0 has cooled in ladle 0 for some minutes. */
    private static Foundry ladle(Foundry x, int minutes) {
        x.tap(0, 0, 1);
        if (minutes > 0) {
            x.advance(minutes);
        }
        return x;
    }

    private static void counts() {
        Sentences.promise(26, "Returns the number of moulds.", () -> {
            for (int i = 0; i <= 6; i++) {
                Due.is("mouldCount", Plants.moulds(i).mouldCount(), i);
            }
        });
        Sentences.promise(27, "Returns the volume of a mould.", () -> {
            Foundry x = new Foundry();
            x.addMould(40);
            x.addMould(1);
            Due.is("the greatest", x.volume(0), 40);
            Due.is("the least", x.volume(1), 1);
        });
        Sentences.promise(28, "Returns whether a mould is filled.", () -> {
            Foundry x = Plants.ladled(1);
            x.addMould(1);
            Due.is("a new mould", x.isFilled(0), false);
            x.pour(0, 0);
            Due.is("a mould of one kilogram", x.isFilled(0), true);
            x.breakOut(0);
            Due.is("an emptied mould", x.isFilled(0), false);
        });
        Sentences.promise(30, "Returns the number of ingots in the store.", () -> {
            for (int i = 0; i <= 12; i++) {
                Due.is("ingotCount", Plants.store(i).ingotCount(), i);
            }
            Foundry x = Plants.store(1);
            x.meltDown(0, 1);
            Due.is("ingotCount after meltDown", x.ingotCount(), 0);
        });
    }

    private static void shareAndGrade() {
        Sentences.promise(32, "Returns the share in thousandths.", () -> {
            Foundry x = Plants.withIngot(1, 0, 0, 0);
            Due.is("all", x.share(0, 'c'), 1000);
            Due.is("none", x.share(0, 'o'), 0);
            Due.is("1 of 40", Plants.withIngot(1, 39, 0, 0).share(0, 'c'), 25);
            Due.is("2 of 3", Plants.withIngot(1, 2, 0, 0).share(0, 't'), 666);
        });
        Sentences.promise(33, "Returns 'c', 'b', 's' or 'x'.", () -> {
            Due.is("950 of copper", Plants.withIngot(19, 1, 0, 0).grade(0), 'c');
            Due.is("800 of copper", Plants.withIngot(8, 2, 0, 0).grade(0), 'b');
            Due.is("500 of tin and 300 of lead", Plants.withIngot(2, 5, 3, 0).grade(0), 's');
            Due.is("1000 of ore", Plants.withIngot(0, 0, 0, 1).grade(0), 'x');
        });
    }

    // totals and checks

    private static void totals() {
        Sentences.promise(35, "Returns the time.", () -> {
            Foundry x = new Foundry();
            Due.is("at first", x.time(), 0);
            x.advance(1);
            x.advance(200);
            Due.is("after 201 minutes", x.time(), 201);
            x.undo();
            Due.is("after undo", x.time(), 1);
        });
        Sentences.promise(36, "Returns the mass of a material that has been charged so far by charge.",
            QueriesBoundaries::chargedSoFar);
        Sentences.promise(37, "Returns the mass of a material that has become slag so far.", () -> {
            Foundry x = Plants.hot(5, 0, 0, 4);
            Due.is("before", x.slag('o') + " " + x.slag('c'), "0 0");
            x.skim(0);
            Due.is("after one", x.slag('o') + " " + x.slag('c'), "4 1");
            x.charge(0, 'o', 50);
            x.advance(50);
            x.skim(0);
            Due.is("after two", x.slag('o') + " " + x.slag('c'), "54 5");
        });
        Sentences.promise(38, "Returns the mass of a material in all furnaces, ladles, moulds and ingots.",
            QueriesBoundaries::stockEverywhere);
        Sentences.promise(39, "Returns the same number as stock: what has been charged minus what has become slag.", () -> {
            Foundry x = Plants.hot(0, 9, 0, 40);
            Due.is("before skim", x.stockByAccounts('o') + " " + x.stockByAccounts('t'), "40 9");
            x.skim(0);
            Due.is("when all is slag", x.stockByAccounts('o') + " " + x.stockByAccounts('t'), "0 0");
            Due.is("stock when all is slag", x.stock('o') + " " + x.stock('t'), "0 0");
        });
    }

    private static void chargedSoFar() {
        Foundry x = Plants.store(1);
        Due.is("at first", x.charged('t'), 100);
        x.meltDown(0, 1);
        Due.is("after meltDown", x.charged('t'), 100);
        x.pourBack(0, 2);
        Due.is("after pourBack", x.charged('t'), 100);
        Due.thrownBy(() -> x.charge(0, 't', 51));
        Due.is("after a charge that throws", x.charged('t'), 100);
        Plants.type(x, "charge 1 t1;charge 0 t0");
        Due.thrownBy(() -> x.runScript());
        Due.is("after a script that throws", x.charged('t'), 100);
        Plants.run(x, "charge 1 t1");
        Due.is("after a script", x.charged('t'), 101);
        x.undo();
        Due.is("after undo", x.charged('t'), 100);
        // More than a furnace holds, and of each material by itself.
        x.charge(2, 'o', 1);
        Due.is("of ore", x.charged('o'), 1);
        Due.is("of copper", x.charged('c'), 0);
    }

    /** Each place in turn is the only one that holds tin, the last of its kind among them. */
    private static void stockEverywhere() {
        for (int furnace = 0; furnace < 3; furnace++) {
            Foundry x = new Foundry();
            x.charge(furnace, 't', 1);
            Due.is("furnace " + furnace, x.stock('t'), 1);
        }
        for (int ladle = 0; ladle < 3; ladle++) {
            Foundry x = Plants.hot(0, 1, 0, 0);
            x.tap(0, ladle, 1);
            Due.is("ladle " + ladle, x.stock('t'), 1);
        }
        for (int mould = 0; mould < 6; mould++) {
            Foundry x = Plants.hot(0, 1, 0, 0);
            for (int i = 0; i < 6; i++) {
                x.addMould(1);
            }
            x.tap(0, 0, 1);
            x.pour(0, mould);
            Due.is("mould " + mould, x.stock('t'), 1);
            x.breakOut(mould);
            Due.is("an ingot", x.stock('t'), 1);
            x.meltDown(0, 2);
            Due.is("a furnace again", x.stock('t'), 1);
        }
        Due.is("twelve ingots", Plants.store(12).stock('t'), 100);
        Due.is("a new object", new Foundry().stock('t'), 0);
    }

    private static void rates() {
        Sentences.promise(40, "Returns the mean temperature of the furnaces: the sum divided by 3, both converted to double.",
            () -> {
                Foundry x = new Foundry();
                Due.is("the least", x.meanTemperature(), 20.0);
                x.setFire(2, 1);
                x.advance(1);
                Due.is("not a whole number", x.meanTemperature(), 65.0 / 3.0);
                for (int i = 0; i < 3; i++) {
                    x.setFire(i, 5);
                }
                x.advance(200);
                Due.is("the greatest", x.meanTemperature(), 1500.0);
            });
        Sentences.refusal(41, ArithmeticException.class, "nothing has been charged", QueriesBoundaries::nothingCharged);
        Sentences.promise(41, "Returns the part of the charged mass of all materials that has become slag, both masses "
            + "converted to float.", () -> {
                Due.is("no slag", Plants.cold(1, 0, 0, 0).slagRate(), 0.0f);
                Foundry x = Plants.hot(0, 9, 0, 40);
                x.skim(0);
                Due.is("all is slag", x.slagRate(), 1.0f);
                x.charge(0, 'c', 12);
                Due.is("49 of 61", x.slagRate(), 49.0f / 61.0f);
            });
    }

    private static void nothingCharged() {
        Refusals.refused("a new object", ArithmeticException.class, Foundry::new, x -> x.slagRate());
        Refusals.refused("after time", ArithmeticException.class, () -> Plants.hot(0, 0, 0, 0), x -> x.slagRate());
        for (char m : Plants.MATERIALS.toCharArray()) {
            Foundry x = new Foundry();
            x.charge(2, m, 1);
            Due.is("a kilogram of " + m, Due.answer(() -> x.slagRate()), "0.0");
            x.undo();
            Due.refused("when that is undone", ArithmeticException.class, () -> x.slagRate());
        }
    }

    private static void consistency() {
        Sentences.promise(42, "Checks the state: both ways to compute melting points and heating times agree for all furnaces "
            + "for which they are defined, and both ways to compute the stock agree for all materials.", () -> {
                Due.is("empty furnaces", new Foundry().isConsistent(), true);
                Due.is("cold furnaces", Plants.cold(0, 0, 0, 100).isConsistent(), true);
                Due.is("a hot empty furnace", Plants.hot(0, 0, 0, 0).isConsistent(), true);
                Due.is("tin at 231 degrees", Plants.tinAt21(42).isConsistent(), true);
                Due.is("tin at 231 degrees without a fire", withFire(Plants.tinAt21(42), 0).isConsistent(), true);
                Due.is("tin at 232 degrees without a fire", withFire(Plants.tinAt22(42), 0).isConsistent(), true);
                Due.is("a full store", Plants.store(12).isConsistent(), true);
                Due.is("slag", skimmed().isConsistent(), true);
            });
    }
}
