import java.lang.reflect.Array;
import java.lang.reflect.Constructor;
import java.lang.reflect.Field;
import java.lang.reflect.Method;
import java.lang.reflect.Modifier;
import java.util.ArrayDeque;
import java.util.Arrays;
import java.util.Collections;
import java.util.Deque;
import java.util.IdentityHashMap;
import java.util.Set;
import java.util.TreeSet;

/** The public face as the document has it, nothing beside it that can be seen, and the room that an object takes. */
public final class FaceTest {
    private static final String ARGUMENT_STATE = " IllegalArgumentException IllegalStateException";
    private static final String[] FACE = {
        "int constructor int int int int" + ARGUMENT_STATE,
        "int function int int int int" + ARGUMENT_STATE,
        "int variable int" + ARGUMENT_STATE,
        "int make int int int int" + ARGUMENT_STATE,
        "int call int int int int" + ARGUMENT_STATE,
        "int clause int int int int int" + ARGUMENT_STATE,
        "int check",
        "int graphs",
        "int arc int int int int IllegalArgumentException",
        "boolean isValue int int",
        "int run int int int int IllegalStateException IllegalArgumentException",
        "int answer int IndexOutOfBoundsException",
        "int count int",
    };
    /** An object for each of 512 calls would still fit into a room of 7.3 million. */
    private static final int ROOM_OF_ONE = 14000;

    private static final Checks checks = new Checks();

    public static void main(String[] args) throws IllegalAccessException {
        face();
        members();
        room();
        lastOfAllCalls();
        checks.end();
    }

    private static void face() {
        Set<String> seen = new TreeSet<>();
        for (Method method : SureFunctions.class.getDeclaredMethods()) {
            if (Modifier.isPublic(method.getModifiers())) {
                StringBuilder text = new StringBuilder(method.getReturnType().getSimpleName());
                text.append(' ').append(method.getName());
                for (Class<?> type : method.getParameterTypes()) {
                    text.append(' ').append(type.getSimpleName());
                }
                for (Class<?> type : method.getExceptionTypes()) {
                    text.append(' ').append(type.getSimpleName());
                }
                seen.add(text.toString());
            }
        }
        checks.due("the face", seen.toString(), new TreeSet<>(Arrays.asList(FACE)).toString());
        checks.due("public and final", SureFunctions.class.getModifiers() == (Modifier.PUBLIC | Modifier.FINAL), true);
    }

    private static void members() {
        for (Constructor<?> constructor : SureFunctions.class.getDeclaredConstructors()) {
            checks.due("the constructor", constructor.toString(), "public SureFunctions()");
        }
        Set<String> publicNames = new TreeSet<>();
        for (Method method : SureFunctions.class.getDeclaredMethods()) {
            if (Modifier.isPublic(method.getModifiers())) {
                publicNames.add(method.getName());
            }
        }
        for (Method method : SureFunctions.class.getDeclaredMethods()) {
            int modifiers = method.getModifiers();
            boolean hidden = Modifier.isPrivate(modifiers) && !publicNames.contains(method.getName());
            checks.due("method " + method, Modifier.isPublic(modifiers) || hidden, true);
        }
        for (Field field : SureFunctions.class.getDeclaredFields()) {
            checks.due("field " + field, Modifier.isPrivate(field.getModifiers()), true);
        }
        for (Class<?> inside : SureFunctions.class.getDeclaredClasses()) {
            checks.due("class " + inside, Modifier.isStatic(inside.getModifiers())
                    && !Modifier.isPublic(inside.getModifiers()), true);
        }
    }

    private static void room() throws IllegalAccessException {
        SureFunctions x = new SureFunctions();
        int before = fieldsAndElements(x);
        checks.due("room of " + before, before <= ROOM_OF_ONE, true);
        x.constructor(0, -1, 0, 0);
        x.function(0, 0, -1, 0);
        int v = x.variable(0);
        x.clause(0, v, 0, 0, v);
        int zero = x.make(0, 0, 0, 0);
        for (int i = 0; i < 250; i++) {
            x.check();
            x.run(0, zero, 0, 0);
        }
        checks.due("room after 500 calls", Integer.toString(fieldsAndElements(x)), Integer.toString(before));
    }

    /** "An object is used for at most 512 calls after it has been made": the last of them still answers as due. */
    private static void lastOfAllCalls() {
        SureFunctions x = new SureFunctions();
        x.constructor(0, -1, -1, -1);
        x.function(0, 0, -1, -1);
        int v = x.variable(0);
        int zero = x.make(0, 0, 0, 0);
        x.clause(0, v, 0, 0, v);
        x.check();
        for (int call = 7; call <= 512; call++) {
            if (call % 2 == 0) {
                checks.due("call " + call, 1, () -> x.run(0, zero, 0, 0));
            } else {
                checks.due("call " + call, 0, x::check);
            }
        }
    }

    private static int fieldsAndElements(Object root) throws IllegalAccessException {
        Set<Object> seen = Collections.newSetFromMap(new IdentityHashMap<>());
        Deque<Object> waiting = new ArrayDeque<>();
        waiting.add(root);
        int sum = 0;
        while (!waiting.isEmpty()) {
            Object next = waiting.remove();
            if (!seen.add(next)) {
                continue;
            }
            if (next.getClass().isArray()) {
                sum += Array.getLength(next);
                continue;
            }
            for (Field field : next.getClass().getDeclaredFields()) {
                if (!Modifier.isStatic(field.getModifiers())) {
                    sum++;
                    field.setAccessible(true);
                    if (!field.getType().isPrimitive() && field.get(next) != null) {
                        waiting.add(field.get(next));
                    }
                }
            }
        }
        return sum;
    }
}
