import java.lang.reflect.Constructor;
import java.lang.reflect.Field;
import java.lang.reflect.Method;
import java.lang.reflect.Modifier;
import java.util.Set;
import java.util.TreeSet;

/** The class has the document's face and no other member that is not private. */
public final class FaceTest {
    private static final String INDEX = "IndexOutOfBoundsException";
    private static final String ARGUMENT = "IllegalArgumentException";
    private static final String STATE = "IllegalStateException";

    private static int wrong = 0;

    private static void due(String what, Object got, Object want) {
        if (!got.equals(want)) {
            wrong++;
            System.out.println(what + " is " + got + ", due is " + want);
        }
    }

    private static String face(String result, String name, int parameters, String... thrown) {
        return "public " + result + " " + name + " " + parameters + " " + String.join(",", thrown);
    }

    private static Set<String> dueMethods() {
        return new TreeSet<>(Set.of(
                face("int", "mint", 2, INDEX, STATE),
                face("int", "owner", 1, INDEX),
                face("int", "ownerByHistory", 1, INDEX),
                face("int", "holder", 1, INDEX),
                face("int", "stateOf", 1, INDEX),
                face("int", "coins", 1, INDEX),
                face("int", "sell", 2, INDEX, ARGUMENT, STATE),
                face("int", "bid", 3, INDEX, ARGUMENT, STATE),
                face("int", "cancelSale", 1, INDEX, STATE),
                face("int", "cancelBid", 2, INDEX, STATE),
                face("int", "leastSale", 1, INDEX),
                face("int", "greatestBid", 1, INDEX),
                face("void", "swap", 2, INDEX, ARGUMENT, STATE),
                face("int", "agree", 1, INDEX, STATE),
                face("void", "cancelSwap", 1, INDEX, STATE),
                face("int", "lend", 3, INDEX, ARGUMENT, STATE),
                face("int", "ban", 2, INDEX, ARGUMENT),
                face("boolean", "lift", 1, INDEX),
                face("boolean", "isBanned", 1, INDEX),
                face("int", "pass", 1, ARGUMENT),
                face("int", "toggleDeck", 2, INDEX),
                face("boolean", "isRight", 1, INDEX),
                face("int", "strength", 1, INDEX),
                face("int", "play", 2, INDEX, ARGUMENT, STATE)));
    }

    private static Set<String> methods() {
        Set<String> found = new TreeSet<>();
        for (Method method : Trumpvault.class.getDeclaredMethods()) {
            if (Modifier.isPrivate(method.getModifiers())) {
                continue;
            }
            StringBuilder thrown = new StringBuilder();
            for (Class<?> exception : method.getExceptionTypes()) {
                thrown.append(thrown.length() == 0 ? "" : ",").append(exception.getSimpleName());
            }
            for (Class<?> type : method.getParameterTypes()) {
                due("a parameter of " + method.getName(), type, int.class);
            }
            found.add(Modifier.toString(method.getModifiers()) + " " + method.getReturnType() + " "
                    + method.getName() + " " + method.getParameterCount() + " " + thrown);
        }
        return found;
    }

    private static Set<String> constants() {
        Set<String> found = new TreeSet<>();
        for (Field field : Trumpvault.class.getDeclaredFields()) {
            if (!Modifier.isPrivate(field.getModifiers())) {
                found.add(Modifier.toString(field.getModifiers()) + " " + field.getType() + " " + field.getName());
            }
        }
        return found;
    }

    private static void lookAtNames() {
        Set<String> publicNames = new TreeSet<>();
        for (Method method : Trumpvault.class.getMethods()) {
            publicNames.add(method.getName());
        }
        for (Method method : Trumpvault.class.getDeclaredMethods()) {
            if (Modifier.isPrivate(method.getModifiers())) {
                due("that a public method is named " + method.getName(),
                        publicNames.contains(method.getName()), false);
            }
        }
    }

    public static void main(String[] args) {
        Class<?> type = Trumpvault.class;
        due("the class", Modifier.toString(type.getModifiers()), "public final");
        Constructor<?>[] constructors = type.getDeclaredConstructors();
        due("the number of constructors", constructors.length, 1);
        due("the constructor", constructors[0].toString(), "public Trumpvault()");
        due("the methods", methods(), dueMethods());
        String before = "public static final int ";
        due("the constants", constants(), new TreeSet<>(Set.of(before + "NONE", before + "FREE",
                before + "OFFERED", before + "SWAPPING", before + "LENT")));
        for (Class<?> inside : type.getDeclaredClasses()) {
            int modifiers = inside.getModifiers();
            due("that " + inside + " is static and not public", Modifier.isStatic(modifiers)
                    && !Modifier.isPublic(modifiers) && !Modifier.isProtected(modifiers), true);
        }
        lookAtNames();
        System.out.println(wrong == 0 ? "the face is as due" : wrong + " parts of the face are wrong");
        if (wrong > 0) {
            System.exit(1);
        }
    }
}
