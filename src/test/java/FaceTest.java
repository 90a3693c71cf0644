import java.lang.reflect.Constructor;
import java.lang.reflect.Field;
import java.lang.reflect.Method;
import java.lang.reflect.Modifier;
import java.util.ArrayList;
import java.util.Collections;
import java.util.List;

/** The public face is the document's: its members, their types and throws clauses, and nothing more. */
public final class FaceTest {
    private static final String[] FACE = {
        "int like(int,int,int,int) IndexOutOfBoundsException IllegalArgumentException",
        "int cup(int,int) IndexOutOfBoundsException IllegalArgumentException IllegalStateException",
        "int sip(int) IndexOutOfBoundsException",
        "int brew(int,int) IndexOutOfBoundsException IllegalArgumentException IllegalStateException",
        "int pour(int) IndexOutOfBoundsException IllegalStateException",
        "int hand(int,int) IndexOutOfBoundsException IllegalArgumentException",
        "int round(int) IndexOutOfBoundsException",
        "int append(int) IllegalArgumentException IllegalStateException",
        "int clearBuffer()",
        "int firstError()",
        "int run() IllegalArgumentException",
        "int keep()",
        "int goBack() IllegalStateException",
        "int undo() IllegalStateException",
        "int guest(int,int) IndexOutOfBoundsException IllegalArgumentException",
        "int pot(int,int) IndexOutOfBoundsException IllegalArgumentException",
        "int told(int,int) IndexOutOfBoundsException",
        "int tale(int,int) IndexOutOfBoundsException IllegalArgumentException",
        "int count(int) IllegalArgumentException",
        "int ifPoured(int,int) IndexOutOfBoundsException IllegalArgumentException",
        "int emptyIn(int) IndexOutOfBoundsException",
        "int bestGuest(int) IndexOutOfBoundsException",
        "double spiltShare()",
        "float meanTrust()",
        "long digest()",
    };

    private static String declared(Method method) {
        StringBuilder text = new StringBuilder();
        text.append(method.getReturnType().getSimpleName()).append(' ').append(method.getName()).append('(');
        Class<?>[] types = method.getParameterTypes();
        for (int i = 0; i < types.length; i++) {
            text.append(i == 0 ? "" : ",").append(types[i].getSimpleName());
        }
        text.append(')');
        for (Class<?> thrown : method.getExceptionTypes()) {
            text.append(' ').append(thrown.getSimpleName());
        }
        return text.toString();
    }

    public static void main(String[] args) {
        Check check = new Check("FaceTest");
        int classMods = WhisperedPots.class.getModifiers();
        check.same("public final class", classMods, Modifier.PUBLIC | Modifier.FINAL);

        List<String> due = new ArrayList<>(List.of(FACE));
        List<String> names = new ArrayList<>();
        for (Method method : WhisperedPots.class.getDeclaredMethods()) {
            if (Modifier.isPrivate(method.getModifiers()) || method.isSynthetic()) {
                continue;
            }
            names.add(method.getName());
            check.same("public alone: " + method, method.getModifiers(), Modifier.PUBLIC);
            check.same("due: " + declared(method), due.remove(declared(method)) ? 1 : 0, 1);
        }
        Collections.sort(due);
        check.same("members that are missing: " + due, due.size(), 0);

        for (Method method : WhisperedPots.class.getDeclaredMethods()) {
            boolean borrowed = Modifier.isPrivate(method.getModifiers()) && names.contains(method.getName());
            check.same("a private method with a public name: " + method, borrowed ? 1 : 0, 0);
        }
        for (Field field : WhisperedPots.class.getDeclaredFields()) {
            boolean constant = field.getName().equals("NONE")
                    && field.getModifiers() == (Modifier.PUBLIC | Modifier.STATIC | Modifier.FINAL);
            boolean hidden = Modifier.isPrivate(field.getModifiers());
            check.same("a field that shows: " + field, constant || hidden ? 1 : 0, 1);
        }
        Constructor<?>[] constructors = WhisperedPots.class.getDeclaredConstructors();
        check.same("constructors", constructors.length, 1);
        check.same("the constructor's parameters", constructors[0].getParameterCount(), 0);
        check.same("the constructor is public", constructors[0].getModifiers(), Modifier.PUBLIC);
        check.same("NONE", WhisperedPots.NONE, -1);
        check.end();
    }
}
