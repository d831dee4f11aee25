import java.lang.reflect.Constructor;
import java.lang.reflect.Field;
import java.lang.reflect.Method;
import java.lang.reflect.Modifier;
import java.util.TreeSet;

/** The class shows what the document's face shows, with its types and exceptions, and nothing else. */
public final class FaceTest {
    private static final String[] FACE = {
        "int object(boolean) IllegalStateException",
        "int piece(int,int,int,boolean) IndexOutOfBoundsException IllegalArgumentException IllegalStateException",
        "int refer(int,int,boolean) IndexOutOfBoundsException IllegalStateException",
        "int reach(int) IllegalArgumentException",
        "int link() IllegalStateException",
        "int fault(int,int) IndexOutOfBoundsException IllegalArgumentException",
        "int ofSymbol(int,int) IndexOutOfBoundsException IllegalArgumentException",
        "int ofPiece(int,int) IndexOutOfBoundsException IllegalArgumentException",
        "int steps(int,int) IndexOutOfBoundsException",
        "int map(int,int) IndexOutOfBoundsException IllegalArgumentException",
        "int many(int) IllegalArgumentException",
        "int run(int) IndexOutOfBoundsException IllegalStateException",
        "int call(int,int) IndexOutOfBoundsException IllegalStateException",
        "int back(int) IndexOutOfBoundsException",
        "int stack(int,int) IndexOutOfBoundsException",
        "double meanStack()",
        "int patch(int,int,int,int) IndexOutOfBoundsException IllegalArgumentException IllegalStateException",
        "boolean gate(int,boolean) IndexOutOfBoundsException",
        "int ofPatch(int,int) IndexOutOfBoundsException IllegalArgumentException",
        "int backsFor(int) IndexOutOfBoundsException",
        "int islandsWith(int) IllegalArgumentException",
        "int faultsWithout(int) IndexOutOfBoundsException",
        "int place(int) IllegalArgumentException",
        "long digest()",
    };

    public static void main(String[] args) {
        Check check = new Check("FaceTest");
        Class<?> yard = LinkfactoryYard.class;
        check.due("public and final", yard.getModifiers(), Modifier.PUBLIC | Modifier.FINAL);
        check.due("constructors", yard.getDeclaredConstructors().length, 1);
        for (Constructor<?> constructor : yard.getDeclaredConstructors()) {
            check.due("public constructor", constructor.getModifiers(), Modifier.PUBLIC);
            check.due("parameters of the constructor", constructor.getParameterCount(), 0);
        }
        for (Field field : yard.getDeclaredFields()) {
            check.due("private field " + field.getName(), Modifier.isPrivate(field.getModifiers()), true);
        }
        checkMethods(check, yard);
        for (Class<?> inside : yard.getDeclaredClasses()) {
            check.due("static class inside " + inside.getName(), Modifier.isStatic(inside.getModifiers()), true);
            check.due("hidden class inside " + inside.getName(), Modifier.isPublic(inside.getModifiers()), false);
        }
        check.end();
    }

    private static void checkMethods(Check check, Class<?> yard) {
        TreeSet<String> due = new TreeSet<>();
        TreeSet<String> names = new TreeSet<>();
        for (String line : FACE) {
            due.add(line);
            names.add(line.substring(line.indexOf(' ') + 1, line.indexOf('(')));
        }
        TreeSet<String> shown = new TreeSet<>();
        for (Method method : yard.getDeclaredMethods()) {
            if (Modifier.isPrivate(method.getModifiers())) {
                check.due("private name of the face: " + method.getName(), names.contains(method.getName()), false);
            } else {
                check.due("plainly public " + method.getName(), method.getModifiers(), Modifier.PUBLIC);
                shown.add(line(method));
            }
        }
        check.dueText("face", shown.toString(), due.toString());
    }

    private static String line(Method method) {
        StringBuilder line = new StringBuilder();
        line.append(method.getReturnType().getSimpleName()).append(' ').append(method.getName()).append('(');
        for (int i = 0; i < method.getParameterCount(); i++) {
            line.append(i == 0 ? "" : ",").append(method.getParameterTypes()[i].getSimpleName());
        }
        line.append(')');
        for (Class<?> exception : method.getExceptionTypes()) {
            line.append(' ').append(exception.getSimpleName());
        }
        return line.toString();
    }
}
