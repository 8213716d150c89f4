import java.lang.reflect.Member;
import java.lang.reflect.Method;
import java.lang.reflect.Modifier;
import java.util.ArrayList;
import java.util.Arrays;
import java.util.Collections;
import java.util.List;

/** The face of the class: what the document lists is public, and nothing else is to be seen. */
public final class FaceTest {
    private static final String INDEX = "IndexOutOfBoundsException";
    private static final String ARGUMENT = "IllegalArgumentException";
    private static final String MISSING = "NoSuchElementException";
    private static final String STATE = "IllegalStateException";
    private static final String UNSUPPORTED = "UnsupportedOperationException";

    private static final String[] FACE = {
        "int charge(int,char,int) " + INDEX + " " + ARGUMENT + " " + UNSUPPORTED,
        "int setFire(int,int) " + INDEX + " " + ARGUMENT,
        "int skim(int) " + INDEX + " " + MISSING + " " + STATE,
        "int tap(int,int,int) " + INDEX + " " + ARGUMENT + " " + MISSING + " " + STATE + " " + UNSUPPORTED,
        "int pourBack(int,int) " + INDEX + " " + MISSING + " " + UNSUPPORTED,
        "int addMould(int) " + ARGUMENT + " " + STATE,
        "int pour(int,int) " + INDEX + " " + STATE + " " + MISSING + " " + UNSUPPORTED,
        "int breakOut(int) " + INDEX + " " + MISSING + " " + STATE,
        "int meltDown(int,int) " + INDEX + " " + UNSUPPORTED,
        "int advance(int) " + ARGUMENT,
        "int furnaceMass(int,char) " + INDEX + " " + ARGUMENT,
        "int furnaceTotal(int) " + INDEX,
        "int furnaceTemperature(int) " + INDEX,
        "int fire(int) " + INDEX,
        "int meltingPoint(int) " + INDEX + " " + MISSING,
        "int meltingPointByDifferences(int) " + INDEX + " " + MISSING,
        "boolean isMolten(int) " + INDEX,
        "int minutesUntilMolten(int) " + INDEX + " " + MISSING,
        "int minutesUntilMoltenByDivision(int) " + INDEX + " " + MISSING,
        "int furnaceByTemperature(int) " + MISSING,
        "int ladleMass(int,char) " + INDEX + " " + ARGUMENT,
        "int ladleTotal(int) " + INDEX,
        "int ladleTemperature(int) " + INDEX,
        "int pouringMinutes(int) " + INDEX + " " + MISSING,
        "int mouldCount()",
        "int volume(int) " + INDEX,
        "boolean isFilled(int) " + INDEX,
        "int mouldMass(int,char) " + INDEX + " " + ARGUMENT,
        "int ingotCount()",
        "int ingotMass(int,char) " + INDEX + " " + ARGUMENT,
        "int share(int,char) " + INDEX + " " + ARGUMENT,
        "char grade(int) " + INDEX,
        "int ingotByMass(int) " + MISSING,
        "int time()",
        "int charged(char) " + ARGUMENT,
        "int slag(char) " + ARGUMENT,
        "int stock(char) " + ARGUMENT,
        "int stockByAccounts(char) " + ARGUMENT,
        "double meanTemperature()",
        "float slagRate() ArithmeticException",
        "boolean isConsistent()",
        "int renderFurnace(int) " + INDEX,
        "int renderGrades()",
        "char outputAt(int) " + INDEX,
        "int type(char) " + ARGUMENT + " " + STATE,
        "int runScript() " + ARGUMENT + " " + STATE,
        "int errorPosition() " + MISSING,
        "int failedCommand() " + MISSING,
        "int undo() " + MISSING,
        "int save()",
        "int restore() " + STATE,
    };

    public static void main(String[] args) {
        Due.is("the class is public and final", Foundry.class.getModifiers(), Modifier.PUBLIC | Modifier.FINAL);
        Due.is("public constructors", Foundry.class.getConstructors().length, 1);
        Due.is("constructors", Foundry.class.getDeclaredConstructors().length, 1);
        List<String> face = new ArrayList<>();
        List<String> names = new ArrayList<>();
        for (Method method : Foundry.class.getDeclaredMethods()) {
            if (Modifier.isPublic(method.getModifiers())) {
                face.add(described(method));
                names.add(method.getName());
            }
        }
        Collections.sort(face);
        String[] due = FACE.clone();
        Arrays.sort(due);
        Due.is("the face", String.join("\n", face), String.join("\n", due));
        for (Method method : Foundry.class.getDeclaredMethods()) {
            if (!Modifier.isPublic(method.getModifiers())) {
                mustBePrivate(method);
                Due.is("a private method named " + method.getName(), names.contains(method.getName()), false);
            }
        }
        for (Member field : Foundry.class.getDeclaredFields()) {
            mustBePrivate(field);
        }
        Due.end();
    }

    private static void mustBePrivate(Member member) {
        Due.is(member.getName() + " is private", Modifier.isPrivate(member.getModifiers()), true);
    }

    private static String described(Method method) {
        StringBuilder text = new StringBuilder();
        text.append(method.getReturnType().getName()).append(' ').append(method.getName()).append('(');
        String comma = "";
        for (Class<?> kind : method.getParameterTypes()) {
            text.append(comma).append(kind.getName());
            comma = ",";
        }
        text.append(')');
        for (Class<?> kind : method.getExceptionTypes()) {
            text.append(' ').append(kind.getSimpleName());
        }
        return text.toString();
    }
}
