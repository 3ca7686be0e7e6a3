import java.lang.reflect.Constructor;
import java.lang.reflect.Field;
import java.lang.reflect.Method;
import java.lang.reflect.Modifier;
import java.util.Arrays;
import java.util.Set;
import java.util.TreeSet;

/** The class shows the face of the document, and nothing besides (rule 1 of LANGUAGE.md). */
public final class FaceTest {
    private static final String[] FACE = {
        "int addKnot(int,int,int) IAS",
        "int setSpill(int,int,int) IA",
        "int tie(int,int) IAS",
        "int join(int,int,int) IAS",
        "int retie(int,int,int) IA",
        "int pull(int,int) IAS",
        "int knots() ",
        "int knotsOf(int) I",
        "int kindOf(int) I",
        "int efficiencyOf(int) I",
        "int crossingsOf(int) I",
        "int spillsAt(int) I",
        "int spillsInto(int) I",
        "int rankOf(int) I",
        "int knotAt(int,int) I",
        "int formOf(int,int) IA",
        "int spills(int,int) IA",
        "int fallsApartAt(int) I",
        "int lines() ",
        "int ropesOf(int) I",
        "int knotOf(int,int) I",
        "int strengthAt(int,int) I",
        "int weakestPlace(int) I",
        "boolean holds(int,int) IA",
        "int holdsUpTo(int) I",
        "int wouldGiveWay(int,int) IA",
        "int bestKnot(int,int) I",
        "int strongestLine() ",
        "double meanEfficiency() ",
        "long digest() ",
    };

    private static String signature(Method method) {
        StringBuilder text = new StringBuilder();
        text.append(method.getReturnType().getName()).append(' ').append(method.getName()).append('(');
        String comma = "";
        for (Class<?> type : method.getParameterTypes()) {
            text.append(comma).append(type.getName());
            comma = ",";
        }
        text.append(") ");
        for (Class<?> type : method.getExceptionTypes()) {
            if (type == IndexOutOfBoundsException.class) {
                text.append('I');
            } else if (type == IllegalArgumentException.class) {
                text.append('A');
            } else if (type == IllegalStateException.class) {
                text.append('S');
            } else {
                text.append('?');
            }
        }
        return text.toString();
    }

    public static void main(String[] args) {
        int wrong = 0;
        Set<String> shown = new TreeSet<>();
        Set<String> names = new TreeSet<>();
        for (Method method : KnotRack.class.getDeclaredMethods()) {
            if (!Modifier.isPrivate(method.getModifiers())) {
                shown.add((Modifier.isPublic(method.getModifiers()) ? "" : "not public: ") + signature(method));
                names.add(method.getName());
            }
        }
        Set<String> due = new TreeSet<>(Arrays.asList(FACE));
        if (!shown.equals(due)) {
            wrong++;
            System.out.println("the face is " + shown + ", due is " + due);
        }
        for (Method method : KnotRack.class.getDeclaredMethods()) {
            if (Modifier.isPrivate(method.getModifiers()) && names.contains(method.getName())) {
                wrong++;
                System.out.println("a private method bears the name " + method.getName());
            }
        }
        for (Field field : KnotRack.class.getDeclaredFields()) {
            int modifiers = field.getModifiers();
            boolean changing = Modifier.isStatic(modifiers) && !Modifier.isFinal(modifiers);
            if (!Modifier.isPrivate(modifiers) || changing) {
                wrong++;
                System.out.println("a field that is not private, or static and not final: " + field.getName());
            }
        }
        Constructor<?>[] constructors = KnotRack.class.getDeclaredConstructors();
        if (constructors.length != 1 || !Modifier.isPublic(constructors[0].getModifiers())
                || constructors[0].getParameterCount() != 0) {
            wrong++;
            System.out.println("the constructor is not public KnotRack()");
        }
        int modifiers = KnotRack.class.getModifiers();
        if (!Modifier.isPublic(modifiers) || !Modifier.isFinal(modifiers)) {
            wrong++;
            System.out.println("the class is not public and final");
        }
        System.out.println(wrong == 0 ? "the face is as due" : wrong + " faults in the face");
        if (wrong != 0) {
            System.exit(1);
        }
    }
}
