import java.lang.reflect.Constructor;
import java.lang.reflect.Field;
import java.lang.reflect.Method;
import java.lang.reflect.Modifier;
import java.util.Arrays;
import java.util.TreeSet;

/** The public face and the constants, and LANGUAGE.md's rule 1 as far as reflection shows it. */
public final class FaceTest {
    private static final String[] METHODS = {
        "reset(int)", "addLink(int,int,int,int)", "removeLink(int,int)", "setCost(int,int,int)",
        "setUp(int,int,int)", "link(int,int,int)", "set(int,int)", "run(int)", "time()", "sent()",
        "entry(int,int,int,int)", "distance(int,int,int)", "choice(int,int)", "entries(int,int,int)",
        "meanWidthBits()", "journalSize()", "journal(int,int)", "trueDistance(int,int)", "wrongPairs()",
        "follow(int,int)", "loops()", "settling()", "loss(int,int)", "recovery(int,int)", "store()",
        "recall()"};

    public static void main(String[] args) {
        Class<?> face = IntervalRouting.class;
        Check.holds("the class is public and final",
            Modifier.isPublic(face.getModifiers()) && Modifier.isFinal(face.getModifiers()));
        methods(face);
        fields(face);
        Constructor<?>[] made = face.getDeclaredConstructors();
        Check.holds("one public constructor without arguments",
            made.length == 1 && Modifier.isPublic(made[0].getModifiers()) && made[0].getParameterCount() == 0);
        for (Class<?> inside : face.getDeclaredClasses()) {
            Check.holds(inside.getName() + " is static and not public",
                Modifier.isStatic(inside.getModifiers()) && !Modifier.isPublic(inside.getModifiers()));
        }
        Check.end();
    }

    private static void methods(Class<?> face) {
        TreeSet<String> open = new TreeSet<>();
        TreeSet<String> names = new TreeSet<>();
        for (String signature : METHODS) {
            names.add(signature.substring(0, signature.indexOf('(')));
        }
        for (Method method : face.getDeclaredMethods()) {
            if (Modifier.isPrivate(method.getModifiers())) {
                Check.holds("private " + method.getName() + " bears no public name",
                    !names.contains(method.getName()));
            } else if (!method.isSynthetic()) {
                Check.holds(method.getName() + " is public, of the object and answers an int",
                    Modifier.isPublic(method.getModifiers()) && !Modifier.isStatic(method.getModifiers())
                        && method.getReturnType() == int.class && method.getExceptionTypes().length == 0);
                open.add(signature(method));
            }
        }
        Check.holds("the methods are the document's: " + open,
            open.equals(new TreeSet<>(Arrays.asList(METHODS))));
    }

    private static String signature(Method method) {
        StringBuilder text = new StringBuilder();
        for (Class<?> type : method.getParameterTypes()) {
            text.append(text.length() == 0 ? "" : ",").append(type.getName());
        }
        return method.getName() + "(" + text + ")";
    }

    private static void fields(Class<?> face) {
        TreeSet<String> open = new TreeSet<>();
        for (Field field : face.getDeclaredFields()) {
            int modifiers = field.getModifiers();
            if (!Modifier.isPrivate(modifiers)) {
                open.add(field.getName());
                Check.holds(field.getName() + " is a public constant", Modifier.isPublic(modifiers)
                    && Modifier.isStatic(modifiers) && Modifier.isFinal(modifiers) && field.getType() == int.class);
            }
        }
        Check.holds("the constants are the document's", open.equals(new TreeSet<>(
            Arrays.asList("INVALID_ARGUMENT", "NOT_POSSIBLE", "LIMIT_REACHED", "NOT_FOUND"))));
        constant("INVALID_ARGUMENT", IntervalRouting.INVALID_ARGUMENT, -1);
        constant("NOT_POSSIBLE", IntervalRouting.NOT_POSSIBLE, -2);
        constant("LIMIT_REACHED", IntervalRouting.LIMIT_REACHED, -3);
        constant("NOT_FOUND", IntervalRouting.NOT_FOUND, -4);
    }

    private static void constant(String name, int got, int want) {
        Check.sentence("Errors", "`" + name + " = " + want + "`");
        Check.due(name, got, want);
    }
}
