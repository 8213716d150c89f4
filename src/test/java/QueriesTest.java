import java.util.NoSuchElementException;

/** Promises 12 to 42: furnaces, ladles, moulds, ingots, totals and checks. */
public final class QueriesTest {
    private static final Class<IndexOutOfBoundsException> INDEX = IndexOutOfBoundsException.class;
    private static final Class<IllegalArgumentException> ARGUMENT = IllegalArgumentException.class;
    private static final Class<NoSuchElementException> MISSING = NoSuchElementException.class;

    public static void main(String[] args) {
        furnaceQueries();
        meltingPoints();
        minutesUntilMolten();
        furnaceByTemperature();
        ladleQueries();
        pouringMinutes();
        mouldQueries();
        ingotQueries();
        grades();
        ingotByMass();
        totals();
        rates();
        consistency();
        Due.end();
    }

    private static void furnaceQueries() {
        Foundry x = new Foundry();
        for (int i : new int[] {-1, 3, Integer.MIN_VALUE, Integer.MAX_VALUE}) {
            Due.refused("12 furnaceMass", INDEX, () -> x.furnaceMass(i, '?'));
            Due.refused("13 furnaceTotal", INDEX, () -> x.furnaceTotal(i));
            Due.refused("14 furnaceTemperature", INDEX, () -> x.furnaceTemperature(i));
            Due.refused("15 fire", INDEX, () -> x.fire(i));
            Due.refused("16 meltingPoint", INDEX, () -> x.meltingPoint(i));
            Due.refused("17 meltingPointByDifferences", INDEX, () -> x.meltingPointByDifferences(i));
            Due.refused("18 isMolten", INDEX, () -> x.isMolten(i));
            Due.refused("19 minutesUntilMolten", INDEX, () -> x.minutesUntilMolten(i));
            Due.refused("20 minutesUntilMoltenByDivision", INDEX, () -> x.minutesUntilMoltenByDivision(i));
        }
        Due.refused("12 no such material", ARGUMENT, () -> x.furnaceMass(0, 'T'));
        x.charge(1, 'c', 1);
        x.charge(1, 't', 2);
        x.charge(1, 'l', 3);
        x.charge(1, 'o', 4);
        x.setFire(1, 4);
        Due.is("12 copper", x.furnaceMass(1, 'c'), 1);
        Due.is("12 tin", x.furnaceMass(1, 't'), 2);
        Due.is("12 lead", x.furnaceMass(1, 'l'), 3);
        Due.is("12 ore", x.furnaceMass(1, 'o'), 4);
        Due.is("12 another furnace", x.furnaceMass(0, 'o'), 0);
        Due.is("13 furnaceTotal", x.furnaceTotal(1), 10);
        Due.is("13 another furnace", x.furnaceTotal(2), 0);
        Due.is("15 fire", x.fire(1), 4);
        x.advance(3);
        Due.is("14 furnaceTemperature", x.furnaceTemperature(1), 125);
        Due.is("14 another furnace", x.furnaceTemperature(0), 20);
    }

    private static void meltingPoints() {
        Foundry x = new Foundry();
        Due.refused("16 an empty furnace", MISSING, () -> x.meltingPoint(0));
        Due.refused("17 an empty furnace", MISSING, () -> x.meltingPointByDifferences(0));
        Due.is("18 an empty furnace", x.isMolten(0), false);
        int[] points = {1085, 232, 327, 1200};
        for (int i = 0; i < 4; i++) {
            Foundry y = new Foundry();
            y.charge(0, "ctlo".charAt(i), 7);
            Due.is("16 a pure material", y.meltingPoint(0), points[i]);
            Due.is("17 a pure material", y.meltingPointByDifferences(0), points[i]);
        }
        x.charge(2, 'c', 2);
        x.charge(2, 't', 1);
        // 2402 / 3
        Due.is("16 rounded down", x.meltingPoint(2), 800);
        Due.is("17 rounded down", x.meltingPointByDifferences(2), 800);
        // 22 minutes of 35 degrees lead to 790.
        x.setFire(2, 4);
        x.advance(22);
        Due.is("18 below by ten", x.furnaceTemperature(2), 790);
        Due.is("18 not yet molten", x.isMolten(2), false);
        x.setFire(2, 1);
        x.advance(1);
        Due.is("18 below by five", x.isMolten(2), false);
        x.advance(1);
        Due.is("18 at the melting point", x.furnaceTemperature(2), 800);
        Due.is("18 molten at the melting point", x.isMolten(2), true);
        Foundry hot = Plants.molten(0, 0, 0, 0, 5);
        hot.skim(0);
        Due.is("18 an emptied hot furnace", hot.isMolten(0), false);
    }

    private static void minutes(String what, Foundry x, int furnace, int want) {
        Due.is("19 " + what, x.minutesUntilMolten(furnace), want);
        Due.is("20 " + what, x.minutesUntilMoltenByDivision(furnace), want);
    }

    private static void noMinutes(String what, Foundry x, int furnace) {
        Due.refused("19 " + what, MISSING, () -> x.minutesUntilMolten(furnace));
        Due.refused("20 " + what, MISSING, () -> x.minutesUntilMoltenByDivision(furnace));
    }

    private static void minutesUntilMolten() {
        Foundry x = new Foundry();
        noMinutes("an empty furnace", x, 0);
        x.setFire(0, 5);
        noMinutes("an empty furnace with a fire", x, 0);
        x.charge(1, 'o', 5);
        noMinutes("no fire", x, 1);
        x.setFire(1, 1);
        minutes("ore by the least fire", x, 1, 236);
        x.setFire(1, 5);
        minutes("ore by the greatest fire", x, 1, 27);
        x.advance(26);
        Due.is("19 nothing has changed", x.time(), 26);
        minutes("one more minute", x, 1, 1);
        x.advance(1);
        minutes("molten", x, 1, 0);
        x.setFire(1, 0);
        minutes("molten without a fire", x, 1, 0);
        x.charge(2, 't', 1);
        x.setFire(2, 2);
        // 212 degrees lack, and 14 minutes of 15 degrees are 2 too few.
        minutes("tin by a fire of 2", x, 2, 15);
        x.charge(2, 'l', 18);
        // The melting point is 322, and 302 degrees lack.
        minutes("lead and tin", x, 2, 21);
    }

    private static void furnaceByTemperature() {
        Foundry x = new Foundry();
        for (int rank : new int[] {-1, 3, Integer.MIN_VALUE, Integer.MAX_VALUE}) {
            Due.refused("21 no such rank", MISSING, () -> x.furnaceByTemperature(rank));
        }
        order(x, "21 by number", 0, 1, 2);
        x.charge(2, 't', 1);
        order(x, "21 by mass", 2, 0, 1);
        x.charge(1, 't', 1);
        order(x, "21 by mass and number", 1, 2, 0);
        x.charge(2, 'c', 5);
        order(x, "21 by mass again", 2, 1, 0);
        x.setFire(0, 1);
        x.advance(1);
        order(x, "21 by temperature", 0, 2, 1);
    }

    private static void order(Foundry x, String what, int first, int second, int third) {
        Due.is(what, x.furnaceByTemperature(0), first);
        Due.is(what, x.furnaceByTemperature(1), second);
        Due.is(what, x.furnaceByTemperature(2), third);
    }

    private static void ladleQueries() {
        Foundry x = Plants.molten(0, 5, 30, 15, 0);
        for (int i : new int[] {-1, 3, Integer.MIN_VALUE, Integer.MAX_VALUE}) {
            Due.refused("22 ladleMass", INDEX, () -> x.ladleMass(i, '?'));
            Due.refused("23 ladleTotal", INDEX, () -> x.ladleTotal(i));
            Due.refused("24 ladleTemperature", INDEX, () -> x.ladleTemperature(i));
            Due.refused("25 pouringMinutes", INDEX, () -> x.pouringMinutes(i));
        }
        Due.refused("22 no such material", ARGUMENT, () -> x.ladleMass(0, 'b'));
        x.tap(0, 1, 10);
        Due.is("22 copper", x.ladleMass(1, 'c'), 1);
        Due.is("22 tin", x.ladleMass(1, 't'), 6);
        Due.is("22 lead", x.ladleMass(1, 'l'), 3);
        Due.is("22 ore", x.ladleMass(1, 'o'), 0);
        Due.is("22 another ladle", x.ladleMass(0, 't'), 0);
        Due.is("23 ladleTotal", x.ladleTotal(1), 10);
        Due.is("23 another ladle", x.ladleTotal(2), 0);
        Due.is("24 ladleTemperature", x.ladleTemperature(1), x.furnaceTemperature(0));
        Due.is("24 an empty ladle", x.ladleTemperature(0), 20);
    }

    private static void pouringMinutes() {
        Foundry x = new Foundry();
        Due.refused("25 an empty ladle", MISSING, () -> x.pouringMinutes(0));
        x.charge(0, 't', 40);
        x.setFire(0, 5);
        x.advance(5);
        x.tap(0, 0, 10);
        // 245 degrees, and tin melts at 232.
        Due.is("25 one minute", x.pouringMinutes(0), 1);
        x.advance(1);
        Due.is("25 no minute", x.pouringMinutes(0), 0);
        x.advance(1);
        Due.refused("25 no more molten", MISSING, () -> x.pouringMinutes(0));
        x.tap(0, 1, 10);
        Due.is("25 at 335 degrees", x.pouringMinutes(1), 10);
        x.advance(10);
        Due.is("25 the last of them", x.pouringMinutes(1), 0);
        // 30 minutes of 35 degrees and 3 of 5 lead to just the melting point of copper.
        Foundry y = new Foundry();
        y.charge(0, 'c', 10);
        y.setFire(0, 4);
        y.advance(30);
        y.setFire(0, 1);
        y.advance(3);
        y.tap(0, 0, 1);
        Due.is("25 at the melting point", y.ladleTemperature(0), 1085);
        Due.is("25 at the melting point no minute", y.pouringMinutes(0), 0);
    }

    private static void mouldQueries() {
        Foundry x = Plants.molten(0, 5, 30, 15, 0);
        Due.is("26 no mould", x.mouldCount(), 0);
        Due.refused("27 no mould", INDEX, () -> x.volume(0));
        x.addMould(10);
        x.addMould(20);
        Due.is("26 mouldCount", x.mouldCount(), 2);
        for (int i : new int[] {-1, 2, Integer.MIN_VALUE, Integer.MAX_VALUE}) {
            Due.refused("27 volume", INDEX, () -> x.volume(i));
            Due.refused("28 isFilled", INDEX, () -> x.isFilled(i));
            Due.refused("29 mouldMass", INDEX, () -> x.mouldMass(i, '?'));
        }
        Due.refused("29 no such material", ARGUMENT, () -> x.mouldMass(0, ' '));
        Due.is("27 volume", x.volume(1), 20);
        Due.is("29 an empty mould", x.mouldMass(1, 't'), 0);
        x.advance(5);
        x.tap(0, 0, 40);
        x.pour(0, 1);
        Due.is("28 filled", x.isFilled(1), true);
        Due.is("28 not filled", x.isFilled(0), false);
        Due.is("29 copper", x.mouldMass(1, 'c'), 2);
        Due.is("29 tin", x.mouldMass(1, 't'), 12);
        Due.is("29 lead", x.mouldMass(1, 'l'), 6);
        Due.is("29 ore", x.mouldMass(1, 'o'), 0);
        Due.is("29 the other mould", x.mouldMass(0, 't'), 0);
    }

    private static void ingotQueries() {
        Foundry x = new Foundry();
        Due.is("30 no ingot", x.ingotCount(), 0);
        Due.refused("31 no ingot", INDEX, () -> x.ingotMass(0, 'c'));
        Foundry y = Plants.withIngot(1, 2, 3, 1);
        Due.is("30 ingotCount", y.ingotCount(), 1);
        for (int i : new int[] {-1, 1, 12, Integer.MIN_VALUE, Integer.MAX_VALUE}) {
            Due.refused("31 ingotMass", INDEX, () -> y.ingotMass(i, '?'));
            Due.refused("32 share", INDEX, () -> y.share(i, '?'));
            Due.refused("33 grade", INDEX, () -> y.grade(i));
        }
        Due.refused("31 no such material", ARGUMENT, () -> y.ingotMass(0, 'd'));
        Due.refused("32 no such material", ARGUMENT, () -> y.share(0, 'd'));
        int[] masses = {1, 2, 3, 1};
        int[] shares = {142, 285, 428, 142};
        for (int i = 0; i < 4; i++) {
            Due.is("31 ingotMass", y.ingotMass(0, "ctlo".charAt(i)), masses[i]);
            Due.is("32 share", y.share(0, "ctlo".charAt(i)), shares[i]);
        }
        Foundry z = Plants.withIngot(1, 0, 0, 0);
        Due.is("32 the whole of one kilogram", z.share(0, 'c'), 1000);
        Due.is("33 grade of one kilogram", z.grade(0), 'c');
    }

    private static void grade(int copper, int tin, int lead, int ore, char want) {
        Foundry x = Plants.withIngot(copper, tin, lead, ore);
        Due.is("33 grade of " + copper + ", " + tin + ", " + lead + ", " + ore, x.grade(0), want);
    }

    private static void grades() {
        grade(40, 0, 0, 0, 'c');
        grade(38, 2, 0, 0, 'c');
        grade(37, 3, 0, 0, 'x');
        grade(37, 2, 0, 1, 'x');
        grade(38, 0, 0, 2, 'c');
        grade(36, 4, 0, 0, 'b');
        grade(32, 8, 0, 0, 'b');
        grade(32, 4, 4, 0, 'b');
        grade(32, 4, 2, 2, 'b');
        grade(32, 5, 0, 3, 'x');
        // Of 39 kilograms, 2 of ore are 51 thousandths.
        grade(33, 4, 0, 2, 'x');
        grade(31, 9, 0, 0, 'x');
        grade(33, 3, 4, 0, 'x');
        grade(0, 28, 12, 0, 's');
        grade(0, 20, 12, 0, 's');
        grade(8, 20, 12, 0, 's');
        grade(0, 20, 20, 0, 's');
        grade(0, 19, 21, 0, 'x');
        grade(0, 29, 11, 0, 'x');
        grade(0, 26, 12, 2, 's');
        grade(0, 25, 12, 3, 'x');
        grade(0, 0, 40, 0, 'x');
    }

    private static void ingotByMass() {
        Foundry x = Plants.molten(0, 20, 20, 0, 0);
        Due.refused("34 no ingot", MISSING, () -> x.ingotByMass(0));
        Plants.addIngot(x, 5);
        Plants.addIngot(x, 8);
        Plants.addIngot(x, 5);
        ranks(x, 1, 0, 2);
        // The furnace holds 11 of each; with more copper in it, the next ingot of 5 has more of it.
        x.charge(0, 'c', 50);
        x.advance(100);
        Plants.addIngot(x, 5);
        Due.is("34 more copper", x.ingotMass(3, 'c') > x.ingotMass(0, 'c'), true);
        ranks(x, 1, 3, 0, 2);
        for (int rank : new int[] {-1, 4, Integer.MIN_VALUE, Integer.MAX_VALUE}) {
            Due.refused("34 no such rank", MISSING, () -> x.ingotByMass(rank));
        }
    }

    private static void ranks(Foundry x, int... want) {
        for (int rank = 0; rank < want.length; rank++) {
            Due.is("34 ingotByMass(" + rank + ")", x.ingotByMass(rank), want[rank]);
        }
    }

    private static void totals() {
        Foundry x = Plants.molten(0, 10, 20, 0, 9);
        for (char material : new char[] {'x', 'O', 0, 0xffff}) {
            Due.refused("36 charged", ARGUMENT, () -> x.charged(material));
            Due.refused("37 slag", ARGUMENT, () -> x.slag(material));
            Due.refused("38 stock", ARGUMENT, () -> x.stock(material));
            Due.refused("39 stockByAccounts", ARGUMENT, () -> x.stockByAccounts(material));
        }
        int start = x.time();
        x.advance(20);
        Due.is("35 time", x.time(), start + 20);
        x.charge(1, 't', 7);
        Due.is("36 tin of two furnaces", x.charged('t'), 27);
        Due.is("36 ore", x.charged('o'), 9);
        x.skim(0);
        Due.is("37 ore", x.slag('o'), 9);
        Due.is("37 tin", x.slag('t'), 2);
        Due.is("37 copper", x.slag('c'), 0);
        x.tap(0, 0, 14);
        x.addMould(4);
        x.addMould(3);
        x.pour(0, 0);
        x.breakOut(0);
        x.pour(0, 1);
        // Tin in a furnace of two, a ladle, a mould and an ingot.
        Due.is("38 tin", x.stock('t'), 25);
        Due.is("39 tin", x.stockByAccounts('t'), 25);
        Due.is("38 copper", x.stock('c'), 10);
        Due.is("38 ore", x.stock('o'), 0);
        Due.is("39 ore", x.stockByAccounts('o'), 0);
        Due.is("36 skimming leaves it", x.charged('t'), 27);
        x.meltDown(0, 2);
        Due.is("36 melting down leaves it", x.charged('t'), 27);
        Due.is("38 tin after melting down", x.stock('t'), 25);
    }

    private static void rates() {
        Foundry x = new Foundry();
        Due.is("40 at first", x.meanTemperature(), 20.0);
        Due.refused("41 nothing charged", ArithmeticException.class, () -> x.slagRate());
        x.setFire(0, 1);
        x.advance(1);
        Due.is("40 not a whole number", x.meanTemperature(), 65.0 / 3.0);
        x.charge(1, 'o', 30);
        Due.is("41 no slag", x.slagRate(), 0.0f);
        x.charge(1, 't', 30);
        x.setFire(1, 5);
        x.advance(20);
        x.skim(1);
        Due.is("41 slagRate", x.slagRate(), 37.0f / 60.0f);
        x.charge(1, 'c', 1);
        Due.is("41 slagRate of 61", x.slagRate(), 37.0f / 61.0f);
        Foundry y = Plants.molten(0, 0, 0, 0, 8);
        y.skim(0);
        Due.is("41 all is slag", y.slagRate(), 1.0f);
    }

    private static void consistency() {
        Foundry x = new Foundry();
        Due.is("42 a new object", x.isConsistent(), true);
        x.charge(0, 'o', 8);
        Due.is("42 what will not melt", x.isConsistent(), true);
        x.charge(0, 'l', 13);
        x.setFire(0, 3);
        Due.is("42 what will melt", x.isConsistent(), true);
        x.advance(100);
        x.skim(0);
        x.tap(0, 0, 4);
        Due.is("42 after a tap", x.isConsistent(), true);
    }
}
