import java.lang.reflect.Constructor;
import java.lang.reflect.Field;
import java.lang.reflect.Member;
import java.lang.reflect.Method;
import java.lang.reflect.Modifier;
import java.util.Arrays;
import java.util.Set;
import java.util.TreeSet;

/** The public face: just what the document lists, and nothing else that is visible. */
public final class FaceTest {
    private static final String[] FACE = {
        "INVALID_ARGUMENT int -1", "ILLEGAL_STATE int -2", "CAPACITY_EXCEEDED int -3", "NONE int -9",
        "ReturnPile 0",
        "call 2", "tail 1", "ret 0", "raise 1", "setRepair 1", "begin 1", "undo 0", "append 1",
        "clearText 0", "run 0", "count 1", "frame 2", "slot 2", "confession 2", "named 1", "worst 0",
        "ahead 2", "missesWith 1", "bestSize 0", "callsUntil 1",
    };

    public static void main(String[] args) throws IllegalAccessException {
        Set<String> due = new TreeSet<>(Arrays.asList(FACE));
        Set<String> found = new TreeSet<>();
        Set<String> publicNames = new TreeSet<>();
        for (Field field : ReturnPile.class.getDeclaredFields()) {
            if (isVisible(field)) {
                found.add(field.getName() + " " + field.getType() + " " + field.getInt(null));
            }
        }
        for (Constructor<?> constructor : ReturnPile.class.getDeclaredConstructors()) {
            if (isVisible(constructor)) {
                found.add("ReturnPile " + constructor.getParameterCount());
            }
        }
        for (Method method : ReturnPile.class.getDeclaredMethods()) {
            if (isVisible(method)) {
                found.add(method.getName() + " " + method.getParameterCount());
                publicNames.add(method.getName());
                Dues.due("is " + method.getName() + " of ints", isOfInts(method) ? 1 : 0, 1);
                Dues.due("is " + method.getName() + " public", method.getModifiers(), Modifier.PUBLIC);
            }
        }
        if (!found.equals(due)) {
            System.out.println("found " + found + ", due " + due);
        }
        Dues.due("the face is as due", found.equals(due) ? 1 : 0, 1);
        Dues.due("the class is public and final", ReturnPile.class.getModifiers(),
                Modifier.PUBLIC | Modifier.FINAL);
        Dues.due("private methods with a public name", privateMethodsNamed(publicNames), 0);
        Dues.due("static fields that are not final", staticFieldsThatChange(), 0);
        Dues.end();
    }

    private static boolean isVisible(Member member) {
        return !Modifier.isPrivate(member.getModifiers());
    }

    private static boolean isOfInts(Method method) {
        boolean ofInts = method.getReturnType() == int.class;
        for (Class<?> type : method.getParameterTypes()) {
            ofInts = ofInts && type == int.class;
        }
        return ofInts;
    }

    private static int privateMethodsNamed(Set<String> names) {
        int number = 0;
        for (Class<?> inside : ReturnPile.class.getDeclaredClasses()) {
            for (Method method : inside.getDeclaredMethods()) {
                number += names.contains(method.getName()) ? 1 : 0;
            }
        }
        for (Method method : ReturnPile.class.getDeclaredMethods()) {
            number += !isVisible(method) && names.contains(method.getName()) ? 1 : 0;
        }
        return number;
    }

    private static int staticFieldsThatChange() {
        int number = 0;
        for (Class<?> inside : ReturnPile.class.getDeclaredClasses()) {
            number += staticFieldsThatChange(inside);
        }
        return number + staticFieldsThatChange(ReturnPile.class);
    }

    private static int staticFieldsThatChange(Class<?> inside) {
        int number = 0;
        for (Field field : inside.getDeclaredFields()) {
            int modifiers = field.getModifiers();
            number += Modifier.isStatic(modifiers) && !Modifier.isFinal(modifiers) ? 1 : 0;
        }
        return number;
    }
}
