import java.lang.reflect.Constructor;
import java.lang.reflect.Field;
import java.lang.reflect.Method;
import java.lang.reflect.Modifier;
import java.util.Set;
import java.util.TreeSet;

/** The public face of the document, and nothing beside it (LANGUAGE.md, rules 1 and 5). */
public final class FaceTest {
    private static final String[] METHODS = {
        "newSet int", "pay int int", "sail int", "dock int", "add int int", "remove int int",
        "addRange int int int", "removeRange int int int", "combine int int int int", "type char",
        "clearText", "readRanges int", "undo", "keep", "restore", "has int int", "set int int",
        "boat int int int", "rank int int", "at int int", "next int int", "nearest int int",
        "gap int int", "sizeOf int int int", "ofAll int", "most", "tollToDock int", "count int"};

    public static void main(String[] args) {
        methods();
        fields();
        constructors();
        classesInside();
        Check.finish();
    }

    private static void methods() {
        Set<String> due = new TreeSet<>(Set.of(METHODS));
        Set<String> got = new TreeSet<>();
        for (Method method : BoatSets.class.getDeclaredMethods()) {
            if (!Modifier.isPrivate(method.getModifiers()) && !method.isSynthetic()) {
                StringBuilder face = new StringBuilder(method.getName());
                for (Class<?> type : method.getParameterTypes()) {
                    face.append(' ').append(type.getName());
                }
                got.add(face.toString());
                Check.that(method + " is public and of the object", method.getModifiers() == Modifier.PUBLIC);
                Check.that(method + " answers an int", method.getReturnType() == int.class);
            }
        }
        Check.that("methods " + got, got.equals(due));
    }

    private static void fields() {
        Check.due("UNKNOWN", BoatSets.UNKNOWN, -1);
        Check.due("BAD_VALUE", BoatSets.BAD_VALUE, -2);
        Check.due("FULL", BoatSets.FULL, -3);
        Check.due("NOT_POSSIBLE", BoatSets.NOT_POSSIBLE, -4);
        Check.due("NONE", BoatSets.NONE, -5);
        int open = 0;
        for (Field field : BoatSets.class.getDeclaredFields()) {
            int modifiers = field.getModifiers();
            if (!Modifier.isPrivate(modifiers)) {
                open++;
                Check.due(field.toString(), modifiers, Modifier.PUBLIC | Modifier.STATIC | Modifier.FINAL);
            }
            Check.that(field + " final if static", !Modifier.isStatic(modifiers) || Modifier.isFinal(modifiers));
        }
        Check.due("open fields", open, 5);
    }

    private static void constructors() {
        Constructor<?>[] all = BoatSets.class.getDeclaredConstructors();
        Check.due("constructors", all.length, 1);
        Check.that("public, without arguments", all[0].getModifiers() == Modifier.PUBLIC && all[0].getParameterCount() == 0);
        Check.that("public and final", BoatSets.class.getModifiers() == (Modifier.PUBLIC | Modifier.FINAL));
    }

    private static void classesInside() {
        Set<String> faceNames = new TreeSet<>();
        for (String method : METHODS) {
            faceNames.add(method.split(" ")[0]);
        }
        for (Class<?> inside : BoatSets.class.getDeclaredClasses()) {
            int modifiers = inside.getModifiers();
            Check.that(inside + " is static", Modifier.isStatic(modifiers));
            Check.that(inside + " is not open", !Modifier.isPublic(modifiers) && !Modifier.isProtected(modifiers));
            for (Method method : inside.getDeclaredMethods()) {
                Check.that(method + " bears no name of the face", !faceNames.contains(method.getName()));
            }
            for (Field field : inside.getDeclaredFields()) {
                Check.that(field + " final if static", !Modifier.isStatic(field.getModifiers()) || Modifier.isFinal(field.getModifiers()));
            }
        }
    }
}
