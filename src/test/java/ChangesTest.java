import java.util.NoSuchElementException;

/** Promises 1 to 11: a new object and the changes. */
public final class ChangesTest {
    private static final Class<IndexOutOfBoundsException> INDEX = IndexOutOfBoundsException.class;
    private static final Class<IllegalArgumentException> ARGUMENT = IllegalArgumentException.class;
    private static final Class<NoSuchElementException> MISSING = NoSuchElementException.class;
    private static final Class<IllegalStateException> STATE = IllegalStateException.class;
    private static final Class<UnsupportedOperationException> UNSUPPORTED = UnsupportedOperationException.class;

    public static void main(String[] args) {
        newObject();
        charge();
        setFire();
        skim();
        skimTakesNoMoreThanThereIs();
        tap();
        takingAPart();
        pourBack();
        addMould();
        pour();
        breakOut();
        breakOutIntoAFullStore();
        meltDown();
        advance();
        temperaturesStayWithinLimits();
        Due.end();
    }

    private static void newObject() {
        Foundry x = new Foundry();
        Due.is("1 time", x.time(), 0);
        Due.is("1 mouldCount", x.mouldCount(), 0);
        Due.is("1 ingotCount", x.ingotCount(), 0);
        for (int i = 0; i < 3; i++) {
            Due.is("1 furnaceTotal", x.furnaceTotal(i), 0);
            Due.is("1 furnaceTemperature", x.furnaceTemperature(i), 20);
            Due.is("1 fire", x.fire(i), 0);
            Due.is("1 ladleTotal", x.ladleTotal(i), 0);
            Due.is("1 ladleTemperature", x.ladleTemperature(i), 20);
        }
        for (char m : "ctlo".toCharArray()) {
            Due.is("1 charged", x.charged(m), 0);
            Due.is("1 slag", x.slag(m), 0);
            Due.is("1 stock", x.stock(m), 0);
        }
    }

    private static void charge() {
        Foundry x = new Foundry();
        for (int furnace : new int[] {-1, 3, Integer.MIN_VALUE, Integer.MAX_VALUE}) {
            Due.refused("2 charge of no furnace", INDEX, () -> x.charge(furnace, '?', 0));
        }
        for (char material : new char[] {'C', 'a', 0, 0xffff, 'x'}) {
            Due.refused("2 charge of no material", ARGUMENT, () -> x.charge(0, material, 1));
        }
        for (int mass : new int[] {0, 51, -1, Integer.MIN_VALUE, Integer.MAX_VALUE}) {
            Due.refused("2 charge of no mass", ARGUMENT, () -> x.charge(0, 'c', mass));
        }
        Due.is("2 charge 1", x.charge(0, 'c', 1), 20);
        Due.is("2 charge 50", x.charge(0, 'o', 50), 20);
        Due.is("2 charge 49", x.charge(0, 't', 49), 20);
        Due.is("2 full", x.furnaceTotal(0), 100);
        Due.refused("2 charge beyond 100", UNSUPPORTED, () -> x.charge(0, 'l', 1));
        Due.refused("2 the mass is looked at before the room", ARGUMENT, () -> x.charge(0, 'l', 51));
        Due.is("2 nothing changed", x.furnaceTotal(0), 100);
        x.setFire(2, 5);
        x.advance(10);
        // (470 * 10 + 20 * 30) / 40, then (132 * 40 + 20 * 7) / 47
        Due.is("2 charge of a hot furnace", x.charge(2, 'l', 30), 132);
        Due.is("2 charge of a hot furnace again", x.charge(2, 't', 7), 115);
        Due.is("2 furnaceTemperature", x.furnaceTemperature(2), 115);
        Due.is("2 charged", x.charged('l'), 30);
    }

    private static void setFire() {
        Foundry x = new Foundry();
        Due.refused("3 setFire(-1, 9)", INDEX, () -> x.setFire(-1, 9));
        Due.refused("3 setFire(3, 1)", INDEX, () -> x.setFire(3, 1));
        Due.refused("3 setFire(0, -1)", ARGUMENT, () -> x.setFire(0, -1));
        Due.refused("3 setFire(0, 6)", ARGUMENT, () -> x.setFire(0, 6));
        Due.is("3 setFire(2, 5)", x.setFire(2, 5), 0);
        Due.is("3 setFire(2, 0)", x.setFire(2, 0), 5);
        Due.is("3 setFire(2, 3)", x.setFire(2, 3), 0);
        Due.is("3 fire(2)", x.fire(2), 3);
        Due.is("3 fire(1)", x.fire(1), 0);
    }

    private static void skim() {
        Foundry x = new Foundry();
        Due.refused("4 skim(-1)", INDEX, () -> x.skim(-1));
        Due.refused("4 skim(3)", INDEX, () -> x.skim(3));
        Due.refused("4 skim of an empty furnace", MISSING, () -> x.skim(0));
        x.charge(0, 't', 20);
        Due.refused("4 skim without ore", MISSING, () -> x.skim(0));
        x.charge(0, 'l', 20);
        x.charge(0, 'o', 11);
        Due.refused("4 skim of what is not molten", STATE, () -> x.skim(0));
        x.setFire(0, 5);
        x.advance(20);
        int temperature = x.furnaceTemperature(0);
        Due.is("4 skim", x.skim(0), 13);
        Due.is("4 the first of two metals", x.furnaceMass(0, 't'), 18);
        Due.is("4 not the second", x.furnaceMass(0, 'l'), 20);
        Due.is("4 no ore is left", x.furnaceMass(0, 'o'), 0);
        Due.is("4 the temperature stays", x.furnaceTemperature(0), temperature);
        Due.is("4 slag of ore", x.slag('o'), 11);
        Due.is("4 slag of tin", x.slag('t'), 2);
        Due.is("4 slag of lead", x.slag('l'), 0);
        x.charge(0, 'o', 3);
        x.advance(20);
        Due.is("4 a quarter of 3 is 0", x.skim(0), 3);
        x.charge(0, 'o', 4);
        x.advance(20);
        Due.is("4 a quarter of 4 is 1", x.skim(0), 5);
        Due.is("4 lead was most", x.furnaceMass(0, 'l'), 19);
    }

    private static void skimTakesNoMoreThanThereIs() {
        Foundry x = Plants.molten(1, 2, 3, 0, 40);
        Due.is("4 skim of much ore", x.skim(1), 43);
        Due.is("4 copper stays", x.furnaceMass(1, 'c'), 2);
        Due.is("4 no tin is left", x.furnaceMass(1, 't'), 0);
        Foundry y = Plants.molten(0, 0, 0, 0, 8);
        Due.is("4 skim of ore alone", y.skim(0), 8);
        Due.is("4 the furnace is empty", y.furnaceTotal(0), 0);
    }

    private static void tap() {
        Foundry x = Plants.molten(0, 0, 60, 0, 0);
        Due.refused("5 tap(3, 0, 0)", INDEX, () -> x.tap(3, 0, 0));
        Due.refused("5 tap(-1, 0, 1)", INDEX, () -> x.tap(-1, 0, 1));
        Due.refused("5 tap(0, 3, 1)", INDEX, () -> x.tap(0, 3, 1));
        Due.refused("5 tap(0, -1, 0)", INDEX, () -> x.tap(0, -1, 0));
        Due.refused("5 tap(0, 0, 0)", ARGUMENT, () -> x.tap(0, 0, 0));
        Due.refused("5 tap(1, 0, 41)", ARGUMENT, () -> x.tap(1, 0, 41));
        Due.refused("5 tap of an empty furnace", MISSING, () -> x.tap(1, 0, 1));
        x.charge(1, 'c', 5);
        Due.refused("5 tap of more than there is", MISSING, () -> x.tap(1, 0, 6));
        Due.refused("5 tap of what is not molten", STATE, () -> x.tap(1, 0, 5));
        Due.is("5 tap(0, 0, 1)", x.tap(0, 0, 1), x.furnaceTemperature(0));
        int cooler = x.ladleTemperature(0);
        x.advance(10);
        // The ladle has lost 100 degrees, the furnace has won 450.
        int mixed = (cooler - 100 + (cooler + 450) * 39) / 40;
        Due.is("5 tap(0, 0, 39)", x.tap(0, 0, 39), mixed);
        Due.is("5 ladleTotal", x.ladleTotal(0), 40);
        Due.is("5 furnaceTotal", x.furnaceTotal(0), 20);
        Due.refused("5 tap into a full ladle", UNSUPPORTED, () -> x.tap(0, 0, 1));
        Due.refused("5 what the furnace has comes first", MISSING, () -> x.tap(0, 0, 21));
        Due.refused("5 molten comes before the room", STATE, () -> x.tap(1, 0, 5));
        Due.is("5 tap of all", x.tap(0, 1, 20), cooler + 450);
        Due.is("5 an emptied furnace keeps its temperature", x.furnaceTemperature(0), cooler + 450);
        Due.is("5 the furnace is empty", x.furnaceTotal(0), 0);
    }

    private static void takingAPart() {
        // Of 10, 10, 10 and 1 by 16 / 31 at first 5, 5, 5 and 0; the last one from the first of the largest.
        Foundry x = Plants.molten(0, 10, 10, 10, 1);
        x.tap(0, 0, 16);
        Due.is("5 copper", x.ladleMass(0, 'c'), 6);
        Due.is("5 tin", x.ladleMass(0, 't'), 5);
        Due.is("5 lead", x.ladleMass(0, 'l'), 5);
        Due.is("5 ore", x.ladleMass(0, 'o'), 0);
        // Of 1, 1, 1 and 1 by 3 / 4 at first nothing; then one of each in their order.
        Foundry y = Plants.molten(0, 1, 1, 1, 1);
        y.tap(0, 0, 3);
        Due.is("5 copper of four", y.ladleMass(0, 'c'), 1);
        Due.is("5 tin of four", y.ladleMass(0, 't'), 1);
        Due.is("5 lead of four", y.ladleMass(0, 'l'), 1);
        Due.is("5 ore of four", y.ladleMass(0, 'o'), 0);
        // Of 0, 2, 3 and 9 by 2 / 14 at first 0, 0, 0 and 1; then one from the ore, of which 8 are left.
        Foundry z = Plants.molten(0, 0, 2, 3, 9);
        z.tap(0, 0, 2);
        Due.is("5 ore twice", z.ladleMass(0, 'o'), 2);
        Due.is("5 ore left", z.furnaceMass(0, 'o'), 7);
    }

    private static void pourBack() {
        Foundry x = Plants.molten(0, 0, 40, 0, 0);
        x.advance(5);
        x.tap(0, 2, 30);
        int hot = x.ladleTemperature(2);
        Due.refused("6 pourBack(3, 0)", INDEX, () -> x.pourBack(3, 0));
        Due.refused("6 pourBack(-1, 0)", INDEX, () -> x.pourBack(-1, 0));
        Due.refused("6 pourBack(2, 3)", INDEX, () -> x.pourBack(2, 3));
        Due.refused("6 pourBack(0, -1)", INDEX, () -> x.pourBack(0, -1));
        Due.refused("6 pourBack of an empty ladle", MISSING, () -> x.pourBack(0, 0));
        x.charge(1, 'l', 50);
        x.charge(1, 'l', 21);
        Due.refused("6 pourBack beyond 100", UNSUPPORTED, () -> x.pourBack(2, 1));
        x.charge(2, 'l', 50);
        x.charge(2, 'c', 20);
        Due.is("6 pourBack to 100", x.pourBack(2, 2), (20 * 80 + hot * 30) / 110);
        Due.is("6 furnaceMass", x.furnaceMass(2, 't'), 30);
        Due.is("6 furnaceTotal", x.furnaceTotal(2), 100);
        Due.is("6 ladleTotal", x.ladleTotal(2), 0);
        Due.is("6 ladleTemperature", x.ladleTemperature(2), 20);
        x.tap(0, 1, 5);
        x.advance(200);
        Due.is("6 the ladle is cold", x.ladleTemperature(1), 20);
        Due.is("6 pourBack of what is not molten", x.pourBack(1, 0), (1500 * 15 + 20 * 5) / 20);
    }

    private static void addMould() {
        Foundry x = new Foundry();
        for (int volume : new int[] {0, -1, 41, Integer.MAX_VALUE, Integer.MIN_VALUE}) {
            Due.refused("7 addMould of no volume", ARGUMENT, () -> x.addMould(volume));
        }
        int[] volumes = {1, 40, 7, 8, 9, 10};
        for (int i = 0; i < 6; i++) {
            Due.is("7 addMould", x.addMould(volumes[i]), i);
        }
        Due.refused("7 a seventh mould", STATE, () -> x.addMould(5));
        Due.refused("7 the volume is looked at first", ARGUMENT, () -> x.addMould(0));
        for (int i = 0; i < 6; i++) {
            Due.is("7 volume", x.volume(i), volumes[i]);
            Due.is("7 a new mould is empty", x.isFilled(i), false);
        }
    }

    private static void pour() {
        Foundry x = Plants.molten(0, 0, 30, 10, 0);
        x.advance(5);
        x.tap(0, 0, 40);
        x.addMould(13);
        x.addMould(28);
        x.addMould(27);
        Due.refused("8 pour(3, 0)", INDEX, () -> x.pour(3, 0));
        Due.refused("8 pour(-1, 0)", INDEX, () -> x.pour(-1, 0));
        Due.refused("8 pour(0, 3)", INDEX, () -> x.pour(0, 3));
        Due.refused("8 pour(1, -1)", INDEX, () -> x.pour(1, -1));
        Due.refused("8 pour from an empty ladle", MISSING, () -> x.pour(1, 0));
        int hot = x.ladleTemperature(0);
        Due.is("8 pour(0, 0)", x.pour(0, 0), 27);
        // Of 30 and 10 by 13 / 40 at first 9 and 3; then one of the tin, of which 21 are left.
        Due.is("8 tin", x.mouldMass(0, 't'), 10);
        Due.is("8 lead", x.mouldMass(0, 'l'), 3);
        Due.is("8 isFilled", x.isFilled(0), true);
        Due.is("8 the ladle keeps its temperature", x.ladleTemperature(0), hot);
        Due.refused("8 pour into a filled mould", STATE, () -> x.pour(0, 0));
        Due.refused("8 filled comes before too little", STATE, () -> x.pour(1, 0));
        Due.refused("8 too little by one", MISSING, () -> x.pour(0, 1));
        x.advance(100);
        Due.refused("8 what is not molten", UNSUPPORTED, () -> x.pour(0, 2));
        Due.refused("8 too little comes before not molten", MISSING, () -> x.pour(0, 1));
        Foundry y = Plants.molten(0, 0, 30, 0, 0);
        y.tap(0, 1, 9);
        y.addMould(9);
        Due.is("8 pour of all", y.pour(1, 0), 0);
        Due.is("8 an emptied ladle is cold", y.ladleTemperature(1), 20);
    }

    private static void breakOut() {
        Foundry x = Plants.molten(0, 0, 30, 0, 0);
        x.advance(5);
        x.tap(0, 0, 20);
        Due.refused("9 breakOut without a mould", INDEX, () -> x.breakOut(0));
        x.addMould(4);
        x.addMould(5);
        Due.refused("9 breakOut(-1)", INDEX, () -> x.breakOut(-1));
        Due.refused("9 breakOut(2)", INDEX, () -> x.breakOut(2));
        Due.refused("9 breakOut of an empty mould", MISSING, () -> x.breakOut(1));
        x.pour(0, 1);
        Due.is("9 breakOut(1)", x.breakOut(1), 0);
        Due.is("9 the mould is empty", x.isFilled(1), false);
        Due.is("9 nothing is left in it", x.mouldMass(1, 't'), 0);
        Due.is("9 the mould stays", x.mouldCount(), 2);
        Due.is("9 the ingot", x.ingotMass(0, 't'), 5);
        x.pour(0, 0);
        Due.is("9 breakOut(0)", x.breakOut(0), 1);
        Due.is("9 ingotCount", x.ingotCount(), 2);
        x.pour(0, 1);
        Due.is("9 a mould is filled again", x.breakOut(1), 2);
    }

    private static void breakOutIntoAFullStore() {
        Foundry x = Plants.molten(0, 0, 30, 0, 0);
        x.advance(30);
        x.tap(0, 0, 30);
        x.addMould(1);
        for (int i = 0; i < 12; i++) {
            x.pour(0, 0);
            Due.is("9 breakOut of the twelve", x.breakOut(0), i);
        }
        Due.refused("9 empty comes before full", MISSING, () -> x.breakOut(0));
        x.pour(0, 0);
        Due.refused("9 a thirteenth ingot", STATE, () -> x.breakOut(0));
        Due.is("9 the mould stays filled", x.isFilled(0), true);
        x.meltDown(11, 1);
        Due.is("9 there is room again", x.breakOut(0), 11);
    }

    private static void meltDown() {
        Foundry x = Plants.molten(0, 20, 60, 20, 0);
        x.advance(20);
        x.tap(0, 0, 40);
        for (int i = 0; i < 3; i++) {
            x.addMould(5 + i);
            x.pour(0, i);
            x.breakOut(i);
        }
        Due.refused("10 meltDown(3, 0)", INDEX, () -> x.meltDown(3, 0));
        Due.refused("10 meltDown(-1, 0)", INDEX, () -> x.meltDown(-1, 0));
        Due.refused("10 meltDown(0, 3)", INDEX, () -> x.meltDown(0, 3));
        Due.refused("10 meltDown(0, -1)", INDEX, () -> x.meltDown(0, -1));
        x.charge(0, 'l', 36);
        Due.refused("10 meltDown beyond 100", UNSUPPORTED, () -> x.meltDown(0, 0));
        Due.is("10 ingotCount", x.ingotCount(), 3);
        int hot = x.furnaceTemperature(0);
        x.setFire(1, 5);
        x.advance(1);
        int tin = x.ingotMass(1, 't');
        // (65 * 10 + 20 * 6) / 16
        Due.is("10 meltDown(1, 1)", x.meltDown(1, 1), 48);
        Due.is("10 furnaceMass", x.furnaceMass(1, 't'), tin);
        Due.is("10 furnaceTotal", x.furnaceTotal(1), 6);
        Due.is("10 ingotCount after it", x.ingotCount(), 2);
        Due.is("10 the earlier ingot stays", mass(x, 0), 5);
        Due.is("10 the later ingot moves up", mass(x, 1), 7);
        Due.is("10 it is not charged", x.charged('t'), 60);
        Due.is("10 another furnace", x.furnaceTemperature(0), hot + 45);
        Due.is("10 meltDown(0, 2)", x.meltDown(0, 2), 20);
        Due.is("10 the last moves up", mass(x, 0), 7);
    }

    private static int mass(Foundry x, int ingot) {
        int mass = 0;
        for (char m : "ctlo".toCharArray()) {
            mass += x.ingotMass(ingot, m);
        }
        return mass;
    }

    private static void advance() {
        Foundry x = new Foundry();
        for (int minutes : new int[] {0, -1, 201, Integer.MAX_VALUE, Integer.MIN_VALUE}) {
            Due.refused("11 advance by no minutes", ARGUMENT, () -> x.advance(minutes));
        }
        x.setFire(0, 1);
        x.setFire(1, 3);
        Due.is("11 empty furnaces are not molten", x.advance(10), 0);
        Due.is("11 time", x.time(), 10);
        Due.is("11 fire 1", x.furnaceTemperature(0), 70);
        Due.is("11 fire 3", x.furnaceTemperature(1), 270);
        Due.is("11 fire 0", x.furnaceTemperature(2), 20);
        x.setFire(1, 0);
        Due.is("11 advance by 200", x.advance(200), 0);
        Due.is("11 cooled to the least", x.furnaceTemperature(1), 20);
        Due.is("11 fire 1 goes on", x.furnaceTemperature(0), 1070);
        Due.is("11 time goes on", x.time(), 210);
        x.charge(1, 't', 1);
        x.setFire(1, 5);
        x.charge(2, 'l', 1);
        x.setFire(2, 5);
        Due.is("11 nothing is molten after 4", x.advance(4), 0);
        Due.is("11 tin is molten after 5", x.advance(1), 1);
        Due.is("11 lead is molten after 7", x.advance(2), 2);
    }

    private static void temperaturesStayWithinLimits() {
        Foundry x = Plants.molten(0, 0, 20, 0, 0);
        x.advance(200);
        Due.is("11 no more than 1500", x.furnaceTemperature(0), 1500);
        x.setFire(0, 0);
        x.advance(1);
        Due.is("11 then 1495", x.furnaceTemperature(0), 1495);
        x.tap(0, 0, 10);
        x.advance(147);
        Due.is("11 a ladle cools by 10 a minute", x.ladleTemperature(0), 25);
        Due.is("11 a furnace cools by 5 a minute", x.furnaceTemperature(0), 760);
        x.advance(1);
        Due.is("11 but not below 20", x.ladleTemperature(0), 20);
        x.advance(1);
        Due.is("11 and stays there", x.ladleTemperature(0), 20);
    }
}
