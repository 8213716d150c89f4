import java.util.ArrayDeque;
import java.util.ArrayList;
import java.util.Deque;
import java.util.List;
import java.util.Map;
import java.util.TreeMap;

/**
 * The changes of the document, written a second time in another way: the state is a map of named numbers, an undo
 * is a copy of the map, and a refusal is the name of the exception.
 */
final class Model {
    private static final String MATERIALS = "ctlo";
    private static final Map<Character, Integer> POINTS = Map.of('c', 1085, 't', 232, 'l', 327, 'o', 1200);

    private Map<String, Integer> state = new TreeMap<>();
    private Map<String, Integer> snapshot = null;
    private final Deque<Map<String, Integer>> undoable = new ArrayDeque<>();

    Model() {
        for (int i = 0; i < 3; i++) {
            set("F" + i + "@", 20);
            set("L" + i + "@", 20);
        }
    }

    int get(String name) {
        return state.getOrDefault(name, 0);
    }

    private void set(String name, int value) {
        state.put(name, value);
    }

    private void add(String name, int value) {
        set(name, get(name) + value);
    }

    int mass(String place) {
        int mass = 0;
        for (char m : MATERIALS.toCharArray()) {
            mass += get(place + m);
        }
        return mass;
    }

    int point(String place) {
        int heat = 0;
        for (char m : MATERIALS.toCharArray()) {
            heat += get(place + m) * POINTS.get(m);
        }
        return Math.floorDiv(heat, mass(place));
    }

    boolean molten(String place) {
        return mass(place) > 0 && get(place + "@") >= point(place);
    }

    private static boolean among(int index, int count) {
        return index >= 0 && index < count;
    }

    /** An answer, or the simple name of an exception. */
    String change(String kind, int a, int b, int c) {
        Map<String, Integer> before = new TreeMap<>(state);
        String answer = apply(kind, a, b, c);
        if (Character.isDigit(answer.charAt(0))) {
            keep(before);
        }
        return answer;
    }

    private void keep(Map<String, Integer> before) {
        undoable.addLast(before);
        if (undoable.size() > 8) {
            undoable.removeFirst();
        }
    }

    /** Each command is its kind and its arguments; the answer is that of runScript, with the index of a failure. */
    String script(List<String> kinds, List<int[]> arguments) {
        Map<String, Integer> before = new TreeMap<>(state);
        for (int i = 0; i < kinds.size(); i++) {
            int[] a = arguments.get(i);
            if (!Character.isDigit(apply(kinds.get(i), a[0], a[1], a[2]).charAt(0))) {
                state = before;
                return "IllegalStateException " + i;
            }
        }
        keep(before);
        return "" + kinds.size();
    }

    String undo() {
        if (undoable.isEmpty()) {
            return "NoSuchElementException";
        }
        state = undoable.removeLast();
        return "" + undoable.size();
    }

    String save() {
        snapshot = new TreeMap<>(state);
        return "" + get("ingots");
    }

    String restore() {
        if (snapshot == null) {
            return "IllegalStateException";
        }
        state = new TreeMap<>(snapshot);
        undoable.clear();
        return "" + get("ingots");
    }

    private String apply(String kind, int a, int b, int c) {
        switch (kind) {
            case "charge":
                return charge(a, (char) b, c);
            case "fire":
                return fire(a, b);
            case "skim":
                return skim(a);
            case "tap":
                return tap(a, b, c);
            case "back":
                return back(a, b);
            case "mould":
                return mould(a);
            case "pour":
                return pour(a, b);
            case "break":
                return breakOut(a);
            case "melt":
                return melt(a, b);
            default:
                return pass(a);
        }
    }

    private void heat(String place, int lining, int mass, int degrees) {
        int old = mass(place) + lining;
        set(place + "@", Math.floorDiv(get(place + "@") * old + degrees * mass, old + mass));
    }

    private String charge(int furnace, char material, int mass) {
        String place = "F" + furnace;
        if (!among(furnace, 3)) {
            return "IndexOutOfBoundsException";
        }
        if (MATERIALS.indexOf(material) < 0 || mass < 1 || mass > 50) {
            return "IllegalArgumentException";
        }
        if (mass(place) + mass > 100) {
            return "UnsupportedOperationException";
        }
        heat(place, 10, mass, 20);
        add(place + material, mass);
        add("charged" + material, mass);
        return "" + get(place + "@");
    }

    private String fire(int furnace, int level) {
        if (!among(furnace, 3)) {
            return "IndexOutOfBoundsException";
        }
        if (level < 0 || level > 5) {
            return "IllegalArgumentException";
        }
        int old = get("fire" + furnace);
        set("fire" + furnace, level);
        return "" + old;
    }

    private String skim(int furnace) {
        String place = "F" + furnace;
        if (!among(furnace, 3)) {
            return "IndexOutOfBoundsException";
        }
        int ore = get(place + "o");
        if (ore == 0) {
            return "NoSuchElementException";
        }
        if (!molten(place)) {
            return "IllegalStateException";
        }
        char metal = 'c';
        for (char m : "tl".toCharArray()) {
            metal = get(place + m) > get(place + metal) ? m : metal;
        }
        int lost = Math.min(ore / 4, get(place + metal));
        set(place + "o", 0);
        add(place + metal, -lost);
        add("slago", ore);
        add("slag" + metal, lost);
        return "" + (ore + lost);
    }

    private void move(String from, String to, int part) {
        int whole = mass(from);
        int[] parts = new int[4];
        int taken = 0;
        for (int i = 0; i < 4; i++) {
            parts[i] = get(from + MATERIALS.charAt(i)) * part / whole;
            taken += parts[i];
        }
        for (; taken < part; taken++) {
            int best = -1;
            for (int i = 3; i >= 0; i--) {
                int left = get(from + MATERIALS.charAt(i)) - parts[i];
                if (best < 0 || left >= get(from + MATERIALS.charAt(best)) - parts[best]) {
                    best = i;
                }
            }
            parts[best]++;
        }
        for (int i = 0; i < 4; i++) {
            add(from + MATERIALS.charAt(i), -parts[i]);
            add(to + MATERIALS.charAt(i), parts[i]);
        }
    }

    private String tap(int furnace, int ladle, int mass) {
        String from = "F" + furnace;
        String to = "L" + ladle;
        if (!among(furnace, 3) || !among(ladle, 3)) {
            return "IndexOutOfBoundsException";
        }
        if (mass < 1 || mass > 40) {
            return "IllegalArgumentException";
        }
        if (mass(from) < mass) {
            return "NoSuchElementException";
        }
        if (!molten(from)) {
            return "IllegalStateException";
        }
        if (mass(to) + mass > 40) {
            return "UnsupportedOperationException";
        }
        heat(to, 0, mass, get(from + "@"));
        move(from, to, mass);
        return "" + get(to + "@");
    }

    private String back(int ladle, int furnace) {
        String from = "L" + ladle;
        String to = "F" + furnace;
        if (!among(furnace, 3) || !among(ladle, 3)) {
            return "IndexOutOfBoundsException";
        }
        int mass = mass(from);
        if (mass == 0) {
            return "NoSuchElementException";
        }
        if (mass(to) + mass > 100) {
            return "UnsupportedOperationException";
        }
        heat(to, 10, mass, get(from + "@"));
        move(from, to, mass);
        set(from + "@", 20);
        return "" + get(to + "@");
    }

    private String mould(int volume) {
        int count = get("moulds");
        if (volume < 1 || volume > 40) {
            return "IllegalArgumentException";
        }
        if (count == 6) {
            return "IllegalStateException";
        }
        set("volume" + count, volume);
        set("moulds", count + 1);
        return "" + count;
    }

    private String pour(int ladle, int mould) {
        String from = "L" + ladle;
        String to = "M" + mould;
        if (!among(ladle, 3) || !among(mould, get("moulds"))) {
            return "IndexOutOfBoundsException";
        }
        if (mass(to) > 0) {
            return "IllegalStateException";
        }
        if (mass(from) < get("volume" + mould)) {
            return "NoSuchElementException";
        }
        if (!molten(from)) {
            return "UnsupportedOperationException";
        }
        move(from, to, get("volume" + mould));
        if (mass(from) == 0) {
            set(from + "@", 20);
        }
        return "" + mass(from);
    }

    private String breakOut(int mould) {
        String from = "M" + mould;
        int count = get("ingots");
        if (!among(mould, get("moulds"))) {
            return "IndexOutOfBoundsException";
        }
        if (mass(from) == 0) {
            return "NoSuchElementException";
        }
        if (count == 12) {
            return "IllegalStateException";
        }
        move(from, "I" + count + " ", mass(from));
        set("ingots", count + 1);
        return "" + count;
    }

    private String melt(int ingot, int furnace) {
        String to = "F" + furnace;
        String from = "I" + ingot + " ";
        int count = get("ingots");
        if (!among(ingot, count) || !among(furnace, 3)) {
            return "IndexOutOfBoundsException";
        }
        int mass = mass(from);
        if (mass(to) + mass > 100) {
            return "UnsupportedOperationException";
        }
        heat(to, 10, mass, 20);
        move(from, to, mass);
        for (int i = ingot + 1; i < count; i++) {
            move("I" + i + " ", "I" + (i - 1) + " ", mass("I" + i + " "));
        }
        set("ingots", count - 1);
        return "" + get(to + "@");
    }

    private String pass(int minutes) {
        if (minutes < 1 || minutes > 200) {
            return "IllegalArgumentException";
        }
        for (int minute = 0; minute < minutes; minute++) {
            add("time", 1);
            for (int i = 0; i < 3; i++) {
                warm("F" + i + "@", 10 * get("fire" + i) - 5);
                warm("L" + i + "@", mass("L" + i) > 0 ? -10 : 0);
            }
        }
        int molten = 0;
        for (int i = 0; i < 3; i++) {
            molten += molten("F" + i) ? 1 : 0;
        }
        return "" + molten;
    }

    private void warm(String name, int degrees) {
        set(name, Math.max(20, Math.min(1500, get(name) + degrees)));
    }

    /** The waiting time found by trying every number of minutes, -1 where none is promised. */
    int minutesUntilMolten(int furnace) {
        String place = "F" + furnace;
        if (mass(place) == 0 || !molten(place) && get("fire" + furnace) == 0) {
            return -1;
        }
        int minutes = 0;
        while (get(place + "@") + minutes * (10 * get("fire" + furnace) - 5) < point(place)) {
            minutes++;
        }
        return minutes;
    }

    /** The same text as Plants.digest. */
    String digest() {
        StringBuilder text = new StringBuilder("time " + get("time"));
        for (int i = 0; i < 3; i++) {
            text.append("\nfurnace " + get("F" + i + "@") + " " + get("fire" + i) + "\nladle " + get("L" + i + "@"));
            for (char m : MATERIALS.toCharArray()) {
                text.append(" " + get("F" + i + m) + "/" + get("L" + i + m));
            }
        }
        for (int i = 0; i < get("moulds"); i++) {
            text.append("\nmould " + get("volume" + i) + (mass("M" + i) > 0) + masses("M" + i));
        }
        for (int i = 0; i < get("ingots"); i++) {
            text.append("\ningot" + masses("I" + i + " "));
        }
        for (char m : MATERIALS.toCharArray()) {
            text.append("\naccount " + get("charged" + m) + " " + get("slag" + m));
        }
        return text.toString();
    }

    private String masses(String place) {
        StringBuilder text = new StringBuilder();
        for (char m : MATERIALS.toCharArray()) {
            text.append(" " + get(place + m));
        }
        return text.toString();
    }

    /** The places sorted by the rules that are given, each a list of numbers of which the greater comes first. */
    static List<Integer> sorted(List<int[]> keys) {
        List<Integer> order = new ArrayList<>();
        for (int i = 0; i < keys.size(); i++) {
            order.add(i);
        }
        order.sort((a, b) -> {
            int[] one = keys.get(a);
            int[] other = keys.get(b);
            for (int k = 0; k < one.length; k++) {
                if (one[k] != other[k]) {
                    return Integer.compare(other[k], one[k]);
                }
            }
            return Integer.compare(a, b);
        });
        return order;
    }

    List<Integer> furnaceOrder() {
        List<int[]> keys = new ArrayList<>();
        for (int i = 0; i < 3; i++) {
            keys.add(new int[] {get("F" + i + "@"), mass("F" + i)});
        }
        return sorted(keys);
    }

    List<Integer> ingotOrder() {
        List<int[]> keys = new ArrayList<>();
        for (int i = 0; i < get("ingots"); i++) {
            keys.add(new int[] {mass("I" + i + " "), get("I" + i + " c")});
        }
        return sorted(keys);
    }
}
