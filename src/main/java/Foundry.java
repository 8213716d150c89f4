import java.util.NoSuchElementException;

/**
 * A simulator of a small foundry: furnaces are charged with metals and ore, heated and skimmed, molten metal is
 * tapped into ladles and poured into moulds, and ingots are graded by their composition.
 */
public final class Foundry {
    private static final int COPPER = 0;
    private static final int TIN = 1;
    private static final int LEAD = 2;
    private static final int ORE = 3;
    private static final int MATERIALS = 4;
    /** The metals are the materials ahead of the ore. */
    private static final int METALS = 3;
    private static final char[] LETTERS = {'c', 't', 'l', 'o'};
    private static final int[] MELTING_POINTS = {1085, 232, 327, 1200};

    private static final int FURNACES = 3;
    private static final int FURNACE_ROOM = 100;
    private static final int FURNACE_LINING = 10;
    private static final int MOST_CHARGED = 50;
    private static final int MOST_FIRE = 5;
    private static final int HEAT_OF_FIRE = 10;
    private static final int FURNACE_COOLING = 5;
    private static final int LADLES = 3;
    private static final int LADLE_ROOM = 40;
    private static final int LADLE_COOLING = 10;
    private static final int MOST_MOULDS = 6;
    private static final int MOST_VOLUME = 40;
    private static final int MOST_INGOTS = 12;
    private static final int COLDEST = 20;
    private static final int HOTTEST = 1500;
    private static final int MOST_MINUTES = 200;
    /** Stands far above the 236 minutes that the slowest fire needs for pure ore. */
    private static final int LONGEST_WAIT = 100000;
    private static final int UNDOABLE = 8;
    private static final int SCRIPT_ROOM = 60;
    private static final int MOST_ARGUMENTS = 3;
    private static final int MOST_DIGITS = 3;

    /** What a change answers when it is refused; all that it answers otherwise is 0 or more. */
    private static final int NO_SUCH_INDEX = -1;
    private static final int BAD_ARGUMENT = -2;
    private static final int MISSING = -3;
    private static final int BAD_STATE = -4;
    private static final int UNSUPPORTED = -5;

    private static final int NONE = -1;
    private static final Command[] COMMANDS = Command.values();

    private final Plant plant = new Plant();
    private final History history = new History();
    private final Plant snapshot = new Plant();
    private boolean hasSnapshot = false;
    private final Script script = new Script();
    private int lastErrorPosition = NONE;
    private int lastFailedCommand = NONE;
    private final StringBuilder output = new StringBuilder();

    /** Creates a foundry at time 0 without moulds and ingots. */
    public Foundry() {
    }

    // changes

    public int charge(int furnace, char material, int mass)
            throws IndexOutOfBoundsException, IllegalArgumentException, UnsupportedOperationException {
        return change(Command.CHARGE, furnace, material, mass);
    }

    public int setFire(int furnace, int level) throws IndexOutOfBoundsException, IllegalArgumentException {
        return change(Command.FIRE, furnace, level, 0);
    }

    public int skim(int furnace) throws IndexOutOfBoundsException, NoSuchElementException, IllegalStateException {
        return change(Command.SKIM, furnace, 0, 0);
    }

    public int tap(int furnace, int ladle, int mass)
            throws IndexOutOfBoundsException, IllegalArgumentException, NoSuchElementException,
            IllegalStateException, UnsupportedOperationException {
        return change(Command.TAP, furnace, ladle, mass);
    }

    public int pourBack(int ladle, int furnace)
            throws IndexOutOfBoundsException, NoSuchElementException, UnsupportedOperationException {
        return change(Command.BACK, ladle, furnace, 0);
    }

    public int addMould(int volume) throws IllegalArgumentException, IllegalStateException {
        return change(Command.MOULD, volume, 0, 0);
    }

    public int pour(int ladle, int mould)
            throws IndexOutOfBoundsException, IllegalStateException, NoSuchElementException,
            UnsupportedOperationException {
        return change(Command.POUR, ladle, mould, 0);
    }

    public int breakOut(int mould) throws IndexOutOfBoundsException, NoSuchElementException, IllegalStateException {
        return change(Command.BREAK, mould, 0, 0);
    }

    public int meltDown(int ingot, int furnace) throws IndexOutOfBoundsException, UnsupportedOperationException {
        return change(Command.MELT, ingot, furnace, 0);
    }

    public int advance(int minutes) throws IllegalArgumentException {
        return change(Command.WAIT, minutes, 0, 0);
    }

    private int change(Command command, int first, int second, int third) {
        history.note(plant);
        int answer = plant.perform(command, first, second, third);
        throwIfRefused(answer);
        history.keep();
        return answer;
    }

    private static void throwIfRefused(int answer) {
        switch (answer) {
            case NO_SUCH_INDEX:
                throw new IndexOutOfBoundsException();
            case BAD_ARGUMENT:
                throw new IllegalArgumentException();
            case MISSING:
                throw new NoSuchElementException();
            case BAD_STATE:
                throw new IllegalStateException();
            case UNSUPPORTED:
                throw new UnsupportedOperationException();
            default:
                break;
        }
    }

    // furnaces

    public int furnaceMass(int furnace, char material) throws IndexOutOfBoundsException, IllegalArgumentException {
        requireIndex(furnace, FURNACES);
        return plant.furnaces[furnace].content.masses[requireMaterial(material)];
    }

    public int furnaceTotal(int furnace) throws IndexOutOfBoundsException {
        requireIndex(furnace, FURNACES);
        return plant.furnaces[furnace].content.sum();
    }

    public int furnaceTemperature(int furnace) throws IndexOutOfBoundsException {
        requireIndex(furnace, FURNACES);
        return plant.furnaces[furnace].temperature;
    }

    public int fire(int furnace) throws IndexOutOfBoundsException {
        requireIndex(furnace, FURNACES);
        return plant.fires[furnace];
    }

    public int meltingPoint(int furnace) throws IndexOutOfBoundsException, NoSuchElementException {
        return requireFilledFurnace(furnace).pointBySums();
    }

    public int meltingPointByDifferences(int furnace) throws IndexOutOfBoundsException, NoSuchElementException {
        return requireFilledFurnace(furnace).pointByDifferences();
    }

    public boolean isMolten(int furnace) throws IndexOutOfBoundsException {
        requireIndex(furnace, FURNACES);
        return plant.furnaces[furnace].liquid();
    }

    public int minutesUntilMolten(int furnace) throws IndexOutOfBoundsException, NoSuchElementException {
        requireMeltingFurnace(furnace);
        return plant.minutesByWaiting(furnace);
    }

    public int minutesUntilMoltenByDivision(int furnace) throws IndexOutOfBoundsException, NoSuchElementException {
        requireMeltingFurnace(furnace);
        return plant.minutesByDivision(furnace);
    }

    public int furnaceByTemperature(int rank) throws NoSuchElementException {
        for (int furnace = 0; furnace < FURNACES; furnace++) {
            if (plant.rankOfFurnace(furnace) == rank) {
                return furnace;
            }
        }
        throw new NoSuchElementException();
    }

    // ladles, moulds, ingots

    public int ladleMass(int ladle, char material) throws IndexOutOfBoundsException, IllegalArgumentException {
        requireIndex(ladle, LADLES);
        return plant.ladles[ladle].content.masses[requireMaterial(material)];
    }

    public int ladleTotal(int ladle) throws IndexOutOfBoundsException {
        requireIndex(ladle, LADLES);
        return plant.ladles[ladle].content.sum();
    }

    public int ladleTemperature(int ladle) throws IndexOutOfBoundsException {
        requireIndex(ladle, LADLES);
        return plant.ladles[ladle].temperature;
    }

    public int pouringMinutes(int ladle) throws IndexOutOfBoundsException, NoSuchElementException {
        requireIndex(ladle, LADLES);
        Vessel vessel = plant.ladles[ladle];
        if (!vessel.liquid()) {
            throw new NoSuchElementException();
        }
        // Every melting point lies above the coldest temperature, so the cooling is even until then.
        return (vessel.temperature - vessel.content.pointBySums()) / LADLE_COOLING;
    }

    public int mouldCount() {
        return plant.mouldCount;
    }

    public int volume(int mould) throws IndexOutOfBoundsException {
        requireIndex(mould, plant.mouldCount);
        return plant.volumes[mould];
    }

    public boolean isFilled(int mould) throws IndexOutOfBoundsException {
        requireIndex(mould, plant.mouldCount);
        return plant.moulds[mould].sum() > 0;
    }

    public int mouldMass(int mould, char material) throws IndexOutOfBoundsException, IllegalArgumentException {
        requireIndex(mould, plant.mouldCount);
        return plant.moulds[mould].masses[requireMaterial(material)];
    }

    public int ingotCount() {
        return plant.ingotCount;
    }

    public int ingotMass(int ingot, char material) throws IndexOutOfBoundsException, IllegalArgumentException {
        requireIndex(ingot, plant.ingotCount);
        return plant.ingots[ingot].masses[requireMaterial(material)];
    }

    public int share(int ingot, char material) throws IndexOutOfBoundsException, IllegalArgumentException {
        requireIndex(ingot, plant.ingotCount);
        return plant.ingots[ingot].thousandths(requireMaterial(material));
    }

    public char grade(int ingot) throws IndexOutOfBoundsException {
        requireIndex(ingot, plant.ingotCount);
        return plant.ingots[ingot].quality();
    }

    public int ingotByMass(int rank) throws NoSuchElementException {
        for (int ingot = 0; ingot < plant.ingotCount; ingot++) {
            if (plant.rankOfIngot(ingot) == rank) {
                return ingot;
            }
        }
        throw new NoSuchElementException();
    }

    // totals and checks

    public int time() {
        return plant.minutes;
    }

    public int charged(char material) throws IllegalArgumentException {
        return plant.chargedSoFar.masses[requireMaterial(material)];
    }

    public int slag(char material) throws IllegalArgumentException {
        return plant.slagSoFar.masses[requireMaterial(material)];
    }

    public int stock(char material) throws IllegalArgumentException {
        return plant.stockInPlaces(requireMaterial(material));
    }

    public int stockByAccounts(char material) throws IllegalArgumentException {
        return plant.stockInAccounts(requireMaterial(material));
    }

    public double meanTemperature() {
        int sum = 0;
        for (int furnace = 0; furnace < FURNACES; furnace++) {
            sum += plant.furnaces[furnace].temperature;
        }
        return (double) sum / (double) FURNACES;
    }

    public float slagRate() throws ArithmeticException {
        int whole = plant.chargedSoFar.sum();
        if (whole == 0) {
            throw new ArithmeticException();
        }
        return (float) plant.slagSoFar.sum() / (float) whole;
    }

    public boolean isConsistent() {
        for (int furnace = 0; furnace < FURNACES; furnace++) {
            if (!plant.furnaceAgrees(furnace)) {
                return false;
            }
        }
        for (int material = 0; material < MATERIALS; material++) {
            if (plant.stockInPlaces(material) != plant.stockInAccounts(material)) {
                return false;
            }
        }
        return true;
    }

    // output and scripts

    public int renderFurnace(int furnace) throws IndexOutOfBoundsException {
        requireIndex(furnace, FURNACES);
        Vessel vessel = plant.furnaces[furnace];
        output.setLength(0);
        for (int material = 0; material < MATERIALS; material++) {
            int mass = vessel.content.masses[material];
            if (mass > 0) {
                output.append(LETTERS[material]).append(mass);
            }
        }
        output.append('@').append(vessel.temperature);
        return output.length();
    }

    public int renderGrades() {
        output.setLength(0);
        for (int ingot = 0; ingot < plant.ingotCount; ingot++) {
            output.append(plant.ingots[ingot].quality());
        }
        return output.length();
    }

    public char outputAt(int index) throws IndexOutOfBoundsException {
        requireIndex(index, output.length());
        return output.charAt(index);
    }

    public int type(char character) throws IllegalArgumentException, IllegalStateException {
        if (character < 32 || character > 126) {
            throw new IllegalArgumentException();
        }
        if (!script.append(character)) {
            throw new IllegalStateException();
        }
        return script.length;
    }

    public int runScript() throws IllegalArgumentException, IllegalStateException {
        int error = script.parse();
        script.empty();
        if (error != NONE) {
            lastErrorPosition = error;
            throw new IllegalArgumentException();
        }
        int failed = performScript();
        if (failed != NONE) {
            lastFailedCommand = failed;
            throw new IllegalStateException();
        }
        return script.commandCount;
    }

    /** Answers the index of the command that failed, or NONE; a script is one change, and undone as one. */
    private int performScript() {
        history.note(plant);
        for (int i = 0; i < script.commandCount; i++) {
            int[] arguments = script.arguments[i];
            if (plant.perform(script.commands[i], arguments[0], arguments[1], arguments[2]) < 0) {
                history.takeBack(plant);
                return i;
            }
        }
        history.keep();
        return NONE;
    }

    public int errorPosition() throws NoSuchElementException {
        if (lastErrorPosition == NONE) {
            throw new NoSuchElementException();
        }
        return lastErrorPosition;
    }

    public int failedCommand() throws NoSuchElementException {
        if (lastFailedCommand == NONE) {
            throw new NoSuchElementException();
        }
        return lastFailedCommand;
    }

    public int undo() throws NoSuchElementException {
        if (!history.stepBack(plant)) {
            throw new NoSuchElementException();
        }
        return history.count;
    }

    public int save() {
        snapshot.copyFrom(plant);
        hasSnapshot = true;
        return plant.ingotCount;
    }

    public int restore() throws IllegalStateException {
        if (!hasSnapshot) {
            throw new IllegalStateException();
        }
        plant.copyFrom(snapshot);
        history.forget();
        return plant.ingotCount;
    }

    // what several calls rest on

    private static boolean outside(int index, int count) {
        return index < 0 || index >= count;
    }

    private static void requireIndex(int index, int count) {
        if (outside(index, count)) {
            throw new IndexOutOfBoundsException();
        }
    }

    private static int requireMaterial(char letter) {
        int material = materialOf(letter);
        if (material == NONE) {
            throw new IllegalArgumentException();
        }
        return material;
    }

    private static int materialOf(int letter) {
        for (int material = 0; material < MATERIALS; material++) {
            if (LETTERS[material] == letter) {
                return material;
            }
        }
        return NONE;
    }

    private Mixture requireFilledFurnace(int furnace) {
        requireIndex(furnace, FURNACES);
        Mixture content = plant.furnaces[furnace].content;
        if (content.sum() == 0) {
            throw new NoSuchElementException();
        }
        return content;
    }

    private void requireMeltingFurnace(int furnace) {
        requireIndex(furnace, FURNACES);
        if (!plant.willBeMolten(furnace)) {
            throw new NoSuchElementException();
        }
    }

    private static int withinLimits(int temperature) {
        if (temperature < COLDEST) {
            return COLDEST;
        }
        return temperature > HOTTEST ? HOTTEST : temperature;
    }

    /** Masses of the four materials: in a vessel, a mould or an ingot, or in an account of them. */
    private static final class Mixture {
        private final int[] masses = new int[MATERIALS];

        int sum() {
            int sum = 0;
            for (int material = 0; material < MATERIALS; material++) {
                sum += masses[material];
            }
            return sum;
        }

        void copyFrom(Mixture other) {
            System.arraycopy(other.masses, 0, masses, 0, MATERIALS);
        }

        void addAll(Mixture other) {
            for (int material = 0; material < MATERIALS; material++) {
                masses[material] += other.masses[material];
            }
        }

        void clear() {
            for (int material = 0; material < MATERIALS; material++) {
                masses[material] = 0;
            }
        }

        /** The material of which there is most among the first ones; of several such, the first. */
        int mostOf(int materials) {
            int most = 0;
            for (int material = 1; material < materials && material < MATERIALS; material++) {
                if (masses[material] > masses[most]) {
                    most = material;
                }
            }
            return most;
        }

        void movePart(int part, Mixture target) {
            int whole = sum();
            if (whole <= 0) {
                return;
            }
            int missing = part;
            for (int material = 0; material < MATERIALS; material++) {
                int moved = masses[material] * part / whole;
                move(material, moved, target);
                missing -= moved;
            }
            for (int left = missing; left > 0; left--) {
                move(mostOf(MATERIALS), 1, target);
            }
        }

        private void move(int material, int mass, Mixture target) {
            masses[material] -= mass;
            target.masses[material] += mass;
        }

        int pointBySums() {
            int heat = 0;
            int whole = 0;
            for (int material = 0; material < MATERIALS; material++) {
                heat += masses[material] * MELTING_POINTS[material];
                whole += masses[material];
            }
            return whole > 0 ? heat / whole : 0;
        }

        int pointByDifferences() {
            int base = MELTING_POINTS[TIN];
            int above = 0;
            int whole = 0;
            for (int material = 0; material < MATERIALS; material++) {
                above += masses[material] * (MELTING_POINTS[material] - base);
                whole += masses[material];
            }
            return whole > 0 ? base + above / whole : 0;
        }

        int thousandths(int material) {
            int whole = sum();
            return whole > 0 ? 1000 * masses[material] / whole : 0;
        }

        char quality() {
            int copper = thousandths(COPPER);
            int tin = thousandths(TIN);
            if (thousandths(ORE) > 50) {
                return 'x';
            }
            if (copper >= 950) {
                return 'c';
            }
            if (copper >= 800 && tin >= 100) {
                return 'b';
            }
            if (tin >= 500 && thousandths(LEAD) >= 300) {
                return 's';
            }
            return 'x';
        }
    }

    /** A furnace or a ladle: a mixture with a temperature. */
    private static final class Vessel {
        private final Mixture content = new Mixture();
        /** The mass that weighs with the content when something of another temperature is added. */
        private final int lining;
        private int temperature = COLDEST;

        Vessel(int lining) {
            this.lining = lining;
        }

        void copyFrom(Vessel other) {
            content.copyFrom(other.content);
            temperature = other.temperature;
        }

        boolean liquid() {
            return content.sum() > 0 && temperature >= content.pointBySums();
        }

        /** Takes on the temperature of a mass that is about to be added to the content. */
        void blend(int mass, int degrees) {
            int weight = content.sum() + lining;
            if (weight + mass > 0) {
                temperature = (temperature * weight + degrees * mass) / (weight + mass);
            }
        }

        void warm(int degrees) {
            temperature = withinLimits(temperature + degrees);
        }

        void chillIfEmpty() {
            if (content.sum() == 0) {
                temperature = COLDEST;
            }
        }
    }

    /** All that undo and the snapshot cover. */
    private static final class Plant {
        private final Vessel[] furnaces = new Vessel[FURNACES];
        private final int[] fires = new int[FURNACES];
        private final Vessel[] ladles = new Vessel[LADLES];
        private final Mixture[] moulds = new Mixture[MOST_MOULDS];
        private final int[] volumes = new int[MOST_MOULDS];
        private int mouldCount = 0;
        private final Mixture[] ingots = new Mixture[MOST_INGOTS];
        private int ingotCount = 0;
        private final Mixture chargedSoFar = new Mixture();
        private final Mixture slagSoFar = new Mixture();
        private int minutes = 0;

        Plant() {
            for (int furnace = 0; furnace < FURNACES; furnace++) {
                furnaces[furnace] = new Vessel(FURNACE_LINING);
            }
            for (int ladle = 0; ladle < LADLES; ladle++) {
                ladles[ladle] = new Vessel(0);
            }
            for (int mould = 0; mould < MOST_MOULDS; mould++) {
                moulds[mould] = new Mixture();
            }
            for (int ingot = 0; ingot < MOST_INGOTS; ingot++) {
                ingots[ingot] = new Mixture();
            }
        }

        void copyFrom(Plant other) {
            for (int furnace = 0; furnace < FURNACES; furnace++) {
                furnaces[furnace].copyFrom(other.furnaces[furnace]);
                fires[furnace] = other.fires[furnace];
            }
            for (int ladle = 0; ladle < LADLES; ladle++) {
                ladles[ladle].copyFrom(other.ladles[ladle]);
            }
            for (int mould = 0; mould < MOST_MOULDS; mould++) {
                moulds[mould].copyFrom(other.moulds[mould]);
                volumes[mould] = other.volumes[mould];
            }
            mouldCount = other.mouldCount;
            for (int ingot = 0; ingot < MOST_INGOTS; ingot++) {
                ingots[ingot].copyFrom(other.ingots[ingot]);
            }
            ingotCount = other.ingotCount;
            chargedSoFar.copyFrom(other.chargedSoFar);
            slagSoFar.copyFrom(other.slagSoFar);
            minutes = other.minutes;
        }

        /** Answers what the call of the face answers, or a refusal, and then nothing has changed. */
        int perform(Command command, int first, int second, int third) {
            if (command == null) {
                return BAD_ARGUMENT;
            }
            switch (command) {
                case CHARGE:
                    return addSolid(first, second, third);
                case FIRE:
                    return stoke(first, second);
                case SKIM:
                    return skimOff(first);
                case TAP:
                    return draw(first, second, third);
                case BACK:
                    return giveBack(first, second);
                case MOULD:
                    return placeMould(first);
                case POUR:
                    return cast(first, second);
                case BREAK:
                    return knockOut(first);
                case MELT:
                    return remelt(first, second);
                case WAIT:
                    return pass(first);
                default:
                    return BAD_ARGUMENT;
            }
        }

        private int addSolid(int furnace, int letter, int mass) {
            if (outside(furnace, FURNACES)) {
                return NO_SUCH_INDEX;
            }
            int material = materialOf(letter);
            if (material == NONE || mass < 1 || mass > MOST_CHARGED) {
                return BAD_ARGUMENT;
            }
            Vessel vessel = furnaces[furnace];
            if (vessel.content.sum() + mass > FURNACE_ROOM) {
                return UNSUPPORTED;
            }
            vessel.blend(mass, COLDEST);
            vessel.content.masses[material] += mass;
            chargedSoFar.masses[material] += mass;
            return vessel.temperature;
        }

        private int stoke(int furnace, int level) {
            if (outside(furnace, FURNACES)) {
                return NO_SUCH_INDEX;
            }
            if (level < 0 || level > MOST_FIRE) {
                return BAD_ARGUMENT;
            }
            int previous = fires[furnace];
            fires[furnace] = level;
            return previous;
        }

        private int skimOff(int furnace) {
            if (outside(furnace, FURNACES)) {
                return NO_SUCH_INDEX;
            }
            Vessel vessel = furnaces[furnace];
            Mixture content = vessel.content;
            int ore = content.masses[ORE];
            if (ore == 0) {
                return MISSING;
            }
            if (!vessel.liquid()) {
                return BAD_STATE;
            }
            int metal = content.mostOf(METALS);
            int lost = Math.min(ore / 4, content.masses[metal]);
            content.move(ORE, ore, slagSoFar);
            content.move(metal, lost, slagSoFar);
            return ore + lost;
        }

        private int draw(int furnace, int ladle, int mass) {
            if (outside(furnace, FURNACES) || outside(ladle, LADLES)) {
                return NO_SUCH_INDEX;
            }
            if (mass < 1 || mass > LADLE_ROOM) {
                return BAD_ARGUMENT;
            }
            Vessel source = furnaces[furnace];
            Vessel target = ladles[ladle];
            if (source.content.sum() < mass) {
                return MISSING;
            }
            if (!source.liquid()) {
                return BAD_STATE;
            }
            if (target.content.sum() + mass > LADLE_ROOM) {
                return UNSUPPORTED;
            }
            target.blend(mass, source.temperature);
            source.content.movePart(mass, target.content);
            return target.temperature;
        }

        private int giveBack(int ladle, int furnace) {
            if (outside(ladle, LADLES) || outside(furnace, FURNACES)) {
                return NO_SUCH_INDEX;
            }
            Vessel source = ladles[ladle];
            int mass = source.content.sum();
            if (mass == 0) {
                return MISSING;
            }
            Vessel target = furnaces[furnace];
            if (target.content.sum() + mass > FURNACE_ROOM) {
                return UNSUPPORTED;
            }
            target.blend(mass, source.temperature);
            target.content.addAll(source.content);
            source.content.clear();
            source.chillIfEmpty();
            return target.temperature;
        }

        private int placeMould(int volume) {
            if (volume < 1 || volume > MOST_VOLUME) {
                return BAD_ARGUMENT;
            }
            if (mouldCount >= MOST_MOULDS) {
                return BAD_STATE;
            }
            volumes[mouldCount] = volume;
            moulds[mouldCount].clear();
            mouldCount++;
            return mouldCount - 1;
        }

        private int cast(int ladle, int mould) {
            if (outside(ladle, LADLES) || outside(mould, mouldCount)) {
                return NO_SUCH_INDEX;
            }
            // A volume is at least 1, so a filled mould is one that holds a mass.
            if (moulds[mould].sum() > 0) {
                return BAD_STATE;
            }
            Vessel source = ladles[ladle];
            if (source.content.sum() < volumes[mould]) {
                return MISSING;
            }
            if (!source.liquid()) {
                return UNSUPPORTED;
            }
            source.content.movePart(volumes[mould], moulds[mould]);
            source.chillIfEmpty();
            return source.content.sum();
        }

        private int knockOut(int mould) {
            if (outside(mould, mouldCount)) {
                return NO_SUCH_INDEX;
            }
            if (moulds[mould].sum() == 0) {
                return MISSING;
            }
            if (ingotCount >= MOST_INGOTS) {
                return BAD_STATE;
            }
            ingots[ingotCount].copyFrom(moulds[mould]);
            moulds[mould].clear();
            ingotCount++;
            return ingotCount - 1;
        }

        private int remelt(int ingot, int furnace) {
            if (outside(ingot, ingotCount) || outside(furnace, FURNACES)) {
                return NO_SUCH_INDEX;
            }
            Vessel target = furnaces[furnace];
            int mass = ingots[ingot].sum();
            if (target.content.sum() + mass > FURNACE_ROOM) {
                return UNSUPPORTED;
            }
            target.blend(mass, COLDEST);
            target.content.addAll(ingots[ingot]);
            for (int later = ingot + 1; later < ingotCount; later++) {
                ingots[later - 1].copyFrom(ingots[later]);
            }
            ingotCount--;
            return target.temperature;
        }

        private int pass(int duration) {
            if (duration < 1 || duration > MOST_MINUTES) {
                return BAD_ARGUMENT;
            }
            for (int minute = 0; minute < duration; minute++) {
                passOneMinute();
            }
            int molten = 0;
            for (int furnace = 0; furnace < FURNACES; furnace++) {
                molten += furnaces[furnace].liquid() ? 1 : 0;
            }
            return molten;
        }

        private void passOneMinute() {
            minutes++;
            for (int furnace = 0; furnace < FURNACES; furnace++) {
                furnaces[furnace].warm(riseOf(furnace));
            }
            for (int ladle = 0; ladle < LADLES; ladle++) {
                if (ladles[ladle].content.sum() > 0) {
                    ladles[ladle].warm(-LADLE_COOLING);
                }
            }
        }

        private int riseOf(int furnace) {
            return HEAT_OF_FIRE * fires[furnace] - FURNACE_COOLING;
        }

        boolean willBeMolten(int furnace) {
            return furnaces[furnace].liquid() || furnaces[furnace].content.sum() > 0 && fires[furnace] > 0;
        }

        int minutesByWaiting(int furnace) {
            int point = furnaces[furnace].content.pointBySums();
            int temperature = furnaces[furnace].temperature;
            int waited = 0;
            while (temperature < point && waited < LONGEST_WAIT) {
                temperature = withinLimits(temperature + riseOf(furnace));
                waited++;
            }
            return waited;
        }

        int minutesByDivision(int furnace) {
            int lacking = furnaces[furnace].content.pointBySums() - furnaces[furnace].temperature;
            int rise = riseOf(furnace);
            if (lacking <= 0 || rise <= 0) {
                return 0;
            }
            return (lacking + rise - 1) / rise;
        }

        boolean furnaceAgrees(int furnace) {
            Mixture content = furnaces[furnace].content;
            if (content.sum() > 0 && content.pointBySums() != content.pointByDifferences()) {
                return false;
            }
            return !willBeMolten(furnace) || minutesByWaiting(furnace) == minutesByDivision(furnace);
        }

        int rankOfFurnace(int furnace) {
            int rank = 0;
            for (int other = 0; other < FURNACES; other++) {
                if (other != furnace && furnaceComesFirst(other, furnace)) {
                    rank++;
                }
            }
            return rank;
        }

        private boolean furnaceComesFirst(int one, int other) {
            if (furnaces[one].temperature != furnaces[other].temperature) {
                return furnaces[one].temperature > furnaces[other].temperature;
            }
            int mass = furnaces[one].content.sum();
            int otherMass = furnaces[other].content.sum();
            return mass != otherMass ? mass > otherMass : one < other;
        }

        int rankOfIngot(int ingot) {
            int rank = 0;
            for (int other = 0; other < ingotCount; other++) {
                if (other != ingot && ingotComesFirst(other, ingot)) {
                    rank++;
                }
            }
            return rank;
        }

        private boolean ingotComesFirst(int one, int other) {
            int mass = ingots[one].sum();
            int otherMass = ingots[other].sum();
            if (mass != otherMass) {
                return mass > otherMass;
            }
            int copper = ingots[one].masses[COPPER];
            int otherCopper = ingots[other].masses[COPPER];
            return copper != otherCopper ? copper > otherCopper : one < other;
        }

        int stockInPlaces(int material) {
            int mass = 0;
            for (int furnace = 0; furnace < FURNACES; furnace++) {
                mass += furnaces[furnace].content.masses[material];
            }
            for (int ladle = 0; ladle < LADLES; ladle++) {
                mass += ladles[ladle].content.masses[material];
            }
            for (int mould = 0; mould < mouldCount; mould++) {
                mass += moulds[mould].masses[material];
            }
            for (int ingot = 0; ingot < ingotCount; ingot++) {
                mass += ingots[ingot].masses[material];
            }
            return mass;
        }

        int stockInAccounts(int material) {
            return chargedSoFar.masses[material] - slagSoFar.masses[material];
        }
    }

    /** The plants before the latest changes, in a ring whose one spare slot takes the plant before the next. */
    private static final class History {
        private static final int SLOTS = UNDOABLE + 1;
        private final Plant[] slots = new Plant[SLOTS];
        private int spare = 0;
        private int count = 0;

        History() {
            for (int slot = 0; slot < SLOTS; slot++) {
                slots[slot] = new Plant();
            }
        }

        void note(Plant plant) {
            slots[spare].copyFrom(plant);
        }

        /** Makes what was noted last something that can be undone. */
        void keep() {
            spare = (spare + 1) % SLOTS;
            count = Math.min(count + 1, UNDOABLE);
        }

        void takeBack(Plant plant) {
            plant.copyFrom(slots[spare]);
        }

        boolean stepBack(Plant plant) {
            if (count == 0) {
                return false;
            }
            spare = (spare + SLOTS - 1) % SLOTS;
            count--;
            takeBack(plant);
            return true;
        }

        void forget() {
            count = 0;
        }
    }

    /** A command's word, and the form of what follows it: d a digit, n a number, m a material, or a space. */
    private enum Command {
        CHARGE("charge ", "d mn"),
        FIRE("fire ", "d d"),
        SKIM("skim ", "d"),
        TAP("tap ", "d d n"),
        BACK("back ", "d d"),
        MOULD("mould ", "n"),
        POUR("pour ", "d d"),
        BREAK("break ", "d"),
        MELT("melt ", "n d"),
        WAIT("wait ", "n");

        private final String word;
        private final String form;

        Command(String word, String form) {
            this.word = word;
            this.form = form;
        }
    }

    /** The script buffer, and the commands of the script that was parsed last. */
    private static final class Script {
        private final char[] text = new char[SCRIPT_ROOM];
        private int length = 0;
        /** The first character that has not been read yet. */
        private int position = 0;
        private final Command[] commands = new Command[SCRIPT_ROOM];
        private final int[][] arguments = new int[SCRIPT_ROOM][MOST_ARGUMENTS];
        private int commandCount = 0;

        boolean append(char character) {
            if (length >= SCRIPT_ROOM) {
                return false;
            }
            text[length] = character;
            length++;
            return true;
        }

        void empty() {
            length = 0;
        }

        /** Answers the error position, or NONE. */
        int parse() {
            position = 0;
            commandCount = 0;
            // Every command takes up characters, so there are fewer commands than the buffer has room for.
            for (int index = 0; index < SCRIPT_ROOM; index++) {
                if (!readCommand(index)) {
                    return position;
                }
                commandCount = index + 1;
                if (position >= length) {
                    return NONE;
                }
                if (!readSign(';')) {
                    return position;
                }
            }
            return position;
        }

        private boolean readCommand(int index) {
            Command command = readWord();
            if (command == null || !readArguments(command.form, arguments[index])) {
                return false;
            }
            commands[index] = command;
            return true;
        }

        /** Reads past what the text shares with any of the words, even if it is the whole of none. */
        private Command readWord() {
            int shared = 0;
            for (int i = 0; i < COMMANDS.length; i++) {
                Command command = COMMANDS[i];
                int matched = matchedLength(command.word);
                if (matched == command.word.length()) {
                    position += matched;
                    return command;
                }
                shared = Math.max(shared, matched);
            }
            position += shared;
            return null;
        }

        private int matchedLength(String word) {
            int matched = 0;
            while (matched < word.length() && position + matched < length
                    && text[position + matched] == word.charAt(matched)) {
                matched++;
            }
            return matched;
        }

        private boolean readArguments(String form, int[] values) {
            int filled = 0;
            for (int i = 0; i < form.length(); i++) {
                char part = form.charAt(i);
                if (part == ' ') {
                    if (!readSign(' ')) {
                        return false;
                    }
                    continue;
                }
                int value = readValue(part);
                if (value == NONE || filled >= values.length) {
                    return false;
                }
                values[filled] = value;
                filled++;
            }
            return true;
        }

        private int readValue(char part) {
            if (part == 'm') {
                return readMaterial();
            }
            return readNumber(part == 'd' ? 1 : MOST_DIGITS);
        }

        private boolean readSign(char sign) {
            if (position >= length || text[position] != sign) {
                return false;
            }
            position++;
            return true;
        }

        private int readMaterial() {
            if (position >= length || materialOf(text[position]) == NONE) {
                return NONE;
            }
            position++;
            return text[position - 1];
        }

        private int readNumber(int mostDigits) {
            int number = NONE;
            for (int digits = 0; digits < mostDigits && digitFollows(); digits++) {
                number = Math.max(number, 0) * 10 + (text[position] - '0');
                position++;
            }
            return number;
        }

        private boolean digitFollows() {
            return position < length && text[position] >= '0' && text[position] <= '9';
        }
    }
}
