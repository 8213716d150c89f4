/** Foundries that several tests start from, and the whole of what can be asked of one. */
final class Plants {
    static final String MATERIALS = "ctlo";

    private Plants() {
    }

    static void type(Foundry x, String script) {
        for (int i = 0; i < script.length(); i++) {
            x.type(script.charAt(i));
        }
    }

    static int run(Foundry x, String script) {
        type(x, script);
        return x.runScript();
    }

    /** Charges a furnace with these masses of copper, tin, lead and ore. */
    static void charge(Foundry x, int furnace, int... masses) {
        for (int i = 0; i < masses.length; i++) {
            for (int left = masses[i]; left > 0; left -= 50) {
                x.charge(furnace, MATERIALS.charAt(i), Math.min(left, 50));
            }
        }
    }

    static Foundry cold(int copper, int tin, int lead, int ore) {
        Foundry x = new Foundry();
        charge(x, 0, copper, tin, lead, ore);
        return x;
    }

    /** The furnace is heated until it is molten, and then keeps its temperature for taps within the minute. */
    static Foundry molten(int furnace, int copper, int tin, int lead, int ore) {
        Foundry x = new Foundry();
        charge(x, furnace, copper, tin, lead, ore);
        x.setFire(furnace, 5);
        x.advance(x.minutesUntilMolten(furnace));
        return x;
    }

    /** Furnace 0 has 1500 degrees and a fire of 5. */
    static Foundry hot(int copper, int tin, int lead, int ore) {
        Foundry x = cold(copper, tin, lead, ore);
        x.setFire(0, 5);
        x.advance(200);
        return x;
    }

    /**
     * Furnace 0 holds 10 kilograms of tin, and its fire of 1 has led to 22 + 5 * minutes degrees: the charge came at 25
     * degrees, and (25 * 10 + 20 * 10) / 20 is 22. The melting point of tin, 232, is met exactly.
     */
    static Foundry tinAt22(int minutes) {
        return tin(10, minutes);
    }

    /** As tinAt22 with 20 kilograms and 21 + 5 * minutes degrees; 231 are one too few for tin. */
    static Foundry tinAt21(int minutes) {
        return tin(20, minutes);
    }

    private static Foundry tin(int mass, int minutes) {
        Foundry x = new Foundry();
        x.setFire(0, 1);
        x.advance(1);
        x.charge(0, 't', mass);
        if (minutes > 0) {
            x.advance(minutes);
        }
        return x;
    }

    /** Ladle 0 holds this mass of tin of 1500 degrees, and furnace 0 the rest of 100 kilograms. */
    static Foundry ladled(int mass) {
        Foundry x = hot(0, 100, 0, 0);
        x.tap(0, 0, mass);
        return x;
    }

    /** There are as many ingots of tin, the first of them of 1 kilogram, the next of 2, and so on up to 3, then 3. */
    static Foundry store(int ingots) {
        Foundry x = hot(0, 100, 0, 0);
        x.tap(0, 0, 40);
        for (int i = 0; i < ingots; i++) {
            int mould = i < 3 ? x.addMould(i + 1) : 2;
            x.pour(0, mould);
            x.breakOut(mould);
        }
        return x;
    }

    /** Something of everything: masses in every place, slag, changes to undo, a snapshot, a text typed and one put out. */
    static Foundry busy() {
        Foundry x = hot(5, 50, 30, 12);
        x.skim(0);
        x.tap(0, 0, 40);
        x.addMould(4);
        x.addMould(5);
        x.pour(0, 0);
        x.breakOut(0);
        x.pour(0, 0);
        x.save();
        charge(x, 1, 0, 0, 0, 70);
        x.advance(3);
        type(x, "wait 1;x");
        Due.thrownBy(() -> x.runScript());
        type(x, "wait 1;skim 1");
        Due.thrownBy(() -> x.runScript());
        x.renderFurnace(0);
        type(x, "wait 9");
        return x;
    }

    static Foundry moulds(int count) {
        Foundry x = new Foundry();
        for (int i = 0; i < count; i++) {
            x.addMould(i + 1);
        }
        return x;
    }

    /** A foundry whose ingots come from furnace 0 with these masses of copper, tin, lead and ore. */
    static Foundry withIngot(int copper, int tin, int lead, int ore) {
        Foundry x = molten(0, copper, tin, lead, ore);
        addIngot(x, copper + tin + lead + ore);
        return x;
    }

    static void addIngot(Foundry x, int mass) {
        x.advance(20);
        x.tap(0, 0, mass);
        int mould = x.addMould(mass);
        x.pour(0, mould);
        x.breakOut(mould);
    }

    /** The masses of copper, tin, lead and ore in a furnace, as in "1 2 3 4". */
    static String inFurnace(Foundry x, int furnace) {
        return x.furnaceMass(furnace, 'c') + " " + x.furnaceMass(furnace, 't') + " " + x.furnaceMass(furnace, 'l') + " "
            + x.furnaceMass(furnace, 'o');
    }

    static String inLadle(Foundry x, int ladle) {
        return x.ladleMass(ladle, 'c') + " " + x.ladleMass(ladle, 't') + " " + x.ladleMass(ladle, 'l') + " "
            + x.ladleMass(ladle, 'o');
    }

    static String inMould(Foundry x, int mould) {
        return x.mouldMass(mould, 'c') + " " + x.mouldMass(mould, 't') + " " + x.mouldMass(mould, 'l') + " "
            + x.mouldMass(mould, 'o');
    }

    static String inIngot(Foundry x, int ingot) {
        return x.ingotMass(ingot, 'c') + " " + x.ingotMass(ingot, 't') + " " + x.ingotMass(ingot, 'l') + " "
            + x.ingotMass(ingot, 'o');
    }

    static String output(Foundry x, int length) {
        StringBuilder text = new StringBuilder();
        for (int i = 0; i < length; i++) {
            text.append(x.outputAt(i));
        }
        return text.toString();
    }

    /** All that undo and the snapshot cover, as far as it can be asked without a change. */
    static String digest(Foundry x) {
        StringBuilder text = new StringBuilder();
        text.append("time ").append(x.time());
        for (int i = 0; i < 3; i++) {
            text.append("\nfurnace ").append(x.furnaceTemperature(i)).append(' ').append(x.fire(i));
            text.append("\nladle ").append(x.ladleTemperature(i));
            for (char m : MATERIALS.toCharArray()) {
                text.append(' ').append(x.furnaceMass(i, m)).append('/').append(x.ladleMass(i, m));
            }
        }
        for (int i = 0; i < x.mouldCount(); i++) {
            text.append("\nmould ").append(x.volume(i)).append(x.isFilled(i));
            for (char m : MATERIALS.toCharArray()) {
                text.append(' ').append(x.mouldMass(i, m));
            }
        }
        for (int i = 0; i < x.ingotCount(); i++) {
            text.append("\ningot");
            for (char m : MATERIALS.toCharArray()) {
                text.append(' ').append(x.ingotMass(i, m));
            }
        }
        for (char m : MATERIALS.toCharArray()) {
            text.append("\naccount ").append(x.charged(m)).append(' ').append(x.slag(m));
        }
        return text.toString();
    }
}
