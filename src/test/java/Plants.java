/** Foundries that several tests start from, and the whole of what can be asked of one. */
final class Plants {
    static final String MATERIALS = "ctlo";

    private Plants() {
    }

    static void type(Foundry x, String script) {
        for (int i = 0; i < script.length(); i++) {
            x.type(script.charAt(i));
        }
    }

    static int run(Foundry x, String script) {
        type(x, script);
        return x.runScript();
    }

    /** The furnace is heated until it is molten, and then keeps its temperature for taps within the minute. */
    static Foundry molten(int furnace, int copper, int tin, int lead, int ore) {
        Foundry x = new Foundry();
        int[] masses = {copper, tin, lead, ore};
        for (int i = 0; i < masses.length; i++) {
            for (int left = masses[i]; left > 0; left -= 50) {
                x.charge(furnace, MATERIALS.charAt(i), Math.min(left, 50));
            }
        }
        x.setFire(furnace, 5);
        x.advance(x.minutesUntilMolten(furnace));
        return x;
    }

    /** A foundry whose ingots come from furnace 0 with these masses of copper, tin, lead and ore. */
    static Foundry withIngot(int copper, int tin, int lead, int ore) {
        Foundry x = molten(0, copper, tin, lead, ore);
        addIngot(x, copper + tin + lead + ore);
        return x;
    }

    static void addIngot(Foundry x, int mass) {
        x.advance(20);
        x.tap(0, 0, mass);
        int mould = x.addMould(mass);
        x.pour(0, mould);
        x.breakOut(mould);
    }

    static String output(Foundry x, int length) {
        StringBuilder text = new StringBuilder();
        for (int i = 0; i < length; i++) {
            text.append(x.outputAt(i));
        }
        return text.toString();
    }

    /** All that undo and the snapshot cover, as far as it can be asked without a change. */
    static String digest(Foundry x) {
        StringBuilder text = new StringBuilder();
        text.append("time ").append(x.time());
        for (int i = 0; i < 3; i++) {
            text.append("\nfurnace ").append(x.furnaceTemperature(i)).append(' ').append(x.fire(i));
            text.append("\nladle ").append(x.ladleTemperature(i));
            for (char m : MATERIALS.toCharArray()) {
                text.append(' ').append(x.furnaceMass(i, m)).append('/').append(x.ladleMass(i, m));
            }
        }
        for (int i = 0; i < x.mouldCount(); i++) {
            text.append("\nmould ").append(x.volume(i)).append(x.isFilled(i));
            for (char m : MATERIALS.toCharArray()) {
                text.append(' ').append(x.mouldMass(i, m));
            }
        }
        for (int i = 0; i < x.ingotCount(); i++) {
            text.append("\ningot");
            for (char m : MATERIALS.toCharArray()) {
                text.append(' ').append(x.ingotMass(i, m));
            }
        }
        for (char m : MATERIALS.toCharArray()) {
            text.append("\naccount ").append(x.charged(m)).append(' ').append(x.slag(m));
        }
        return text.toString();
    }
}
