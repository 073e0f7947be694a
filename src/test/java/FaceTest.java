import java.lang.reflect.Constructor;
import java.lang.reflect.Field;
import java.lang.reflect.Method;
import java.lang.reflect.Modifier;
import java.util.Arrays;
import java.util.HashSet;
import java.util.Set;
import java.util.TreeSet;

/** The face is the document's to the letter, and nothing else shows. */
public final class FaceTest {
    private static final String I = "IndexOutOfBoundsException";
    private static final String A = "IllegalArgumentException";
    private static final String S = "IllegalStateException";

    private static final String[] CALLS = {
        "void setClass(int int int) " + I + " " + A + " " + S,
        "int add(int int int int) " + I + " " + A + " " + S,
        "int set(int int int int) " + I + " " + A + " " + S,
        "int move(int int int int) " + I + " " + A + " " + S,
        "int delete(int int) " + I + " " + S,
        "boolean carry(int int) " + I,
        "int changes()",
        "int timeOf(int) " + I,
        "int entries(int) " + I,
        "boolean isThere(int int) " + I,
        "int parentOf(int int) " + I,
        "int labelOf(int int) " + I,
        "int value(int int int) " + I,
        "boolean isWhole(int int) " + I,
        "int find(int int int) " + I + " " + A,
        "boolean areAlike()",
        "void setRight(int int int) " + I + " " + A,
        "void refer(int boolean) " + I,
        "int test(int int int) " + A + " " + S,
        "int join(int int int) " + I + " " + A + " " + S,
        "int holds(int int int) " + I,
        "int search(int int int int int int) " + I + " " + A,
    };

    public static void main(String[] args) {
        constants();
        constructor();
        calls();
        classes();
        Check.finish("FaceTest");
    }

    private static void constants() {
        Check.part("constants");
        Check.due("NONE", EntryMasters.NONE, -1);
        Check.due("ALLOW", EntryMasters.ALLOW, 0);
        Check.due("DENY", EntryMasters.DENY, 1);
        Check.due("BASE", EntryMasters.BASE, 0);
        Check.due("ONE", EntryMasters.ONE, 1);
        Check.due("ALL", EntryMasters.ALL, 2);
        Set<String> names = new TreeSet<>();
        for (Field field : EntryMasters.class.getDeclaredFields()) {
            if (!Modifier.isPrivate(field.getModifiers())) {
                names.add(Modifier.toString(field.getModifiers()) + " " + field.getType() + " " + field.getName());
            }
        }
        Set<String> want = new TreeSet<>();
        for (String name : new String[] {"NONE", "ALLOW", "DENY", "BASE", "ONE", "ALL"}) {
            want.add("public static final int " + name);
        }
        Check.due("constants", names.toString(), want.toString());
    }

    private static void constructor() {
        Check.part("constructor");
        StringBuilder shown = new StringBuilder();
        for (Constructor<?> each : EntryMasters.class.getDeclaredConstructors()) {
            shown.append(each.toGenericString()).append(';');
        }
        Check.due("constructors", shown.toString(), "public EntryMasters();");
        Check.due("class", Modifier.toString(EntryMasters.class.getModifiers()), "public final");
    }

    private static void calls() {
        Check.part("calls");
        Set<String> shown = new TreeSet<>();
        Set<String> publicNames = new HashSet<>();
        for (Method method : EntryMasters.class.getDeclaredMethods()) {
            if (!Modifier.isPrivate(method.getModifiers())) {
                Check.due(method.getName(), Modifier.toString(method.getModifiers()), "public");
                shown.add(signature(method));
                publicNames.add(method.getName());
            }
        }
        Check.due("calls", shown.toString(), new TreeSet<>(Arrays.asList(CALLS)).toString());
        for (Method method : EntryMasters.class.getDeclaredMethods()) {
            boolean isHidden = Modifier.isPrivate(method.getModifiers());
            Check.due(method.getName(), isHidden && publicNames.contains(method.getName()), false);
        }
    }

    private static String signature(Method method) {
        StringBuilder text = new StringBuilder();
        text.append(method.getReturnType()).append(' ').append(method.getName()).append('(');
        for (int i = 0; i < method.getParameterCount(); i++) {
            text.append(i == 0 ? "" : " ").append(method.getParameterTypes()[i]);
        }
        text.append(')');
        for (Class<?> thrown : method.getExceptionTypes()) {
            text.append(' ').append(thrown.getSimpleName());
        }
        return text.toString();
    }

    private static void classes() {
        Check.part("classes inside");
        Class<?>[] inside = EntryMasters.class.getDeclaredClasses();
        Check.due("at most twelve", inside.length < 12, true);
        for (Class<?> each : inside) {
            int how = each.getModifiers();
            Check.due(each.getName(), Modifier.isPublic(how) || Modifier.isProtected(how), false);
            Check.due(each.getName() + " is static", Modifier.isStatic(how), true);
            int fields = 0;
            for (Field field : each.getDeclaredFields()) {
                boolean isStatic = Modifier.isStatic(field.getModifiers());
                fields += isStatic ? 0 : 1;
                boolean isFinal = Modifier.isFinal(field.getModifiers());
                Check.due(each.getName() + "." + field.getName(), isStatic && !isFinal, false);
            }
            Check.due(each.getName() + " has some twenty fields", fields <= 20, true);
        }
    }
}
