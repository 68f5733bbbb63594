import java.lang.reflect.Constructor;
import java.lang.reflect.Field;
import java.lang.reflect.Method;
import java.lang.reflect.Modifier;
import java.util.Arrays;
import java.util.TreeSet;

/** The public face is that of the document, and nothing else can be seen of the class. */
public final class FaceTest {
    private static final String[] METHODS = {
        "about(int,int) INDEX ARGUMENT", "accept(int) INDEX STATE",
        "addLine(int,int,int) INDEX ARGUMENT STATE", "carried(int,int) INDEX", "cash(int) INDEX",
        "cashAnew(int) INDEX", "chain(int) INDEX", "clear()", "credit(int,int,int) INDEX ARGUMENT STATE",
        "day()", "dispute(int,int) INDEX STATE", "fault()", "giveBack(int) INDEX STATE",
        "lineOf(int,int,int) INDEX ARGUMENT", "owedTo(int) INDEX", "owes(int) INDEX",
        "pass(int) ARGUMENT STATE", "payBySum(int,int,int) INDEX ARGUMENT STATE",
        "payByText(int,int,int) INDEX ARGUMENT STATE", "refuse(int) INDEX STATE",
        "sell(int,int,int,boolean) INDEX ARGUMENT STATE", "send(int,int,int,int,int) INDEX ARGUMENT STATE",
        "settle(int,int,boolean) INDEX STATE", "tax(int,int) INDEX", "type(int) ARGUMENT STATE",
    };

    public static void main(String[] args) {
        Check check = new Check("FaceTest");
        check.due("the class is public and final", Invoicebridge.class.getModifiers(), Modifier.PUBLIC | Modifier.FINAL);
        check.due("NONE", Invoicebridge.NONE, -1);
        check.due("SENT", Invoicebridge.SENT, 0);
        check.due("ACCEPTED", Invoicebridge.ACCEPTED, 1);
        check.due("REFUSED", Invoicebridge.REFUSED, 2);
        check.due("the methods", methods().toString(), new TreeSet<>(Arrays.asList(METHODS)).toString());
        check.due("the constants", constants().toString(), "[ACCEPTED, NONE, REFUSED, SENT]");
        check.due("the constructors", constructors(), "public Invoicebridge() ");
        check.due("private methods with names of the face", doubled().toString(), "[]");
        check.due("classes inside that can be seen", Invoicebridge.class.getClasses().length, 0);
        check.end();
    }

    private static TreeSet<String> methods() {
        TreeSet<String> found = new TreeSet<>();
        for (Method method : Invoicebridge.class.getDeclaredMethods()) {
            if (Modifier.isPrivate(method.getModifiers()) || method.isSynthetic()) {
                continue;
            }
            StringBuilder text = new StringBuilder(method.getName()).append('(');
            for (int i = 0; i < method.getParameterTypes().length; i++) {
                text.append(i == 0 ? "" : ",").append(method.getParameterTypes()[i].getName());
            }
            text.append(')');
            for (Class<?> thrown : method.getExceptionTypes()) {
                text.append(' ').append(shortName(thrown));
            }
            if (method.getModifiers() != Modifier.PUBLIC || method.getReturnType() != int.class) {
                text.append(" that is not a public int method");
            }
            found.add(text.toString());
        }
        return found;
    }

    private static String shortName(Class<?> thrown) {
        return thrown == Check.INDEX ? "INDEX" : thrown == Check.ARGUMENT ? "ARGUMENT"
                : thrown == Check.STATE ? "STATE" : thrown.getName();
    }

    private static TreeSet<String> constants() {
        TreeSet<String> found = new TreeSet<>();
        for (Field field : Invoicebridge.class.getDeclaredFields()) {
            if (!Modifier.isPrivate(field.getModifiers())) {
                found.add(field.getName());
            }
        }
        return found;
    }

    private static String constructors() {
        StringBuilder text = new StringBuilder();
        for (Constructor<?> constructor : Invoicebridge.class.getDeclaredConstructors()) {
            text.append(constructor).append(' ');
        }
        return text.toString();
    }

    private static TreeSet<String> doubled() {
        TreeSet<String> open = new TreeSet<>();
        TreeSet<String> hidden = new TreeSet<>();
        for (Method method : Invoicebridge.class.getDeclaredMethods()) {
            (Modifier.isPrivate(method.getModifiers()) ? hidden : open).add(method.getName());
        }
        hidden.retainAll(open);
        return hidden;
    }
}
