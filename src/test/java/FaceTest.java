import java.lang.reflect.Constructor;
import java.lang.reflect.Field;
import java.lang.reflect.Method;
import java.lang.reflect.Modifier;
import java.util.ArrayList;
import java.util.Arrays;
import java.util.Collections;
import java.util.List;
import java.util.NoSuchElementException;

/** The class shows the document's face and nothing else (LANGUAGE.md, rule 1). */
public final class FaceTest {
    public static void main(String[] args) {
        Class<?> face = TwoLakes.class;
        Due.yes("public", Modifier.isPublic(face.getModifiers()));
        Due.yes("final", Modifier.isFinal(face.getModifiers()));
        Due.is("NONE", TwoLakes.NONE, -1);
        Due.is("NEVER", TwoLakes.NEVER, -1000000000);
        same("fields", shownFields(face), "public static final int NEVER", "public static final int NONE");
        same("methods", shownMethods(face),
            "boolean end(int)", "boolean flows(int,int,int)", "boolean lakes(int,int,int,int)",
            "boolean machine(int,int,int,int,int,int)", "boolean out(int,int,int,boolean)",
            "boolean price(int,int,int)", "boolean reserve(int,int)", "boolean reveal(int)",
            "boolean speeds(int,int)", "boolean weights(int,int,int)",
            "int count(int)", "int done(int,int,int)", "int legal(int,int)", "int mode(int,int)",
            "int runs(int,int)", "int water(int)", "int worth()");
        Constructor<?>[] made = face.getDeclaredConstructors();
        Due.is("constructors", made.length, 1);
        Due.yes("public constructor", Modifier.isPublic(made[0].getModifiers()) && made[0].getParameterCount() == 0);
        for (Class<?> inside : face.getDeclaredClasses()) {
            Due.yes(inside + " is private and static",
                Modifier.isPrivate(inside.getModifiers()) && Modifier.isStatic(inside.getModifiers()));
            for (Method method : inside.getDeclaredMethods()) {
                Due.no(method + " bears a name of the face", isOfFace(face, method.getName()));
            }
        }
        for (Method method : face.getDeclaredMethods()) {
            boolean throwing = Arrays.asList(method.getExceptionTypes()).contains(NoSuchElementException.class);
            Due.is(method + " says what it throws", throwing ? 1 : 0, method.getName().equals("done") ? 1 : 0);
            boolean hidden = Modifier.isPrivate(method.getModifiers());
            Due.no(method + " bears a name of the face", hidden && isOfFace(face, method.getName()));
        }
        Due.end();
    }

    private static boolean isOfFace(Class<?> face, String name) {
        for (Method method : face.getDeclaredMethods()) {
            if (Modifier.isPublic(method.getModifiers()) && method.getName().equals(name)) {
                return true;
            }
        }
        return false;
    }

    private static List<String> shownFields(Class<?> face) {
        List<String> shown = new ArrayList<>();
        for (Field field : face.getDeclaredFields()) {
            if (!Modifier.isPrivate(field.getModifiers())) {
                shown.add(Modifier.toString(field.getModifiers()) + " " + field.getType().getSimpleName()
                    + " " + field.getName());
            }
        }
        return shown;
    }

    private static List<String> shownMethods(Class<?> face) {
        List<String> shown = new ArrayList<>();
        for (Method method : face.getDeclaredMethods()) {
            if (!Modifier.isPrivate(method.getModifiers())) {
                List<String> takes = new ArrayList<>();
                for (Class<?> type : method.getParameterTypes()) {
                    takes.add(type.getSimpleName());
                }
                shown.add(method.getReturnType().getSimpleName() + " " + method.getName()
                    + "(" + String.join(",", takes) + ")");
            }
        }
        return shown;
    }

    private static void same(String what, List<String> got, String... want) {
        Collections.sort(got);
        Due.yes(what + " " + got, got.equals(List.of(want)));
    }
}
