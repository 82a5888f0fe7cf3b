import java.io.IOException;
import java.lang.reflect.Constructor;
import java.lang.reflect.Executable;
import java.lang.reflect.Field;
import java.lang.reflect.Method;
import java.lang.reflect.Modifier;
import java.nio.file.Files;
import java.nio.file.Path;
import java.util.Set;
import java.util.TreeSet;

/** The class has the public face of ../shared/DOC.md, and shows nothing else. */
public final class FaceTest {
    private static int wrong;

    public static void main(String[] args) throws IOException {
        Set<String> told = toldFace(Files.readString(Path.of("../shared/DOC.md")));
        Set<String> built = builtFace();
        for (String line : told) {
            if (!built.contains(line)) {
                wrong("missing: " + line);
            }
        }
        for (String line : built) {
            if (!told.contains(line)) {
                wrong("not told: " + line);
            }
        }
        if (!Modifier.isFinal(Wighall.class.getModifiers())) {
            wrong("the class is not final");
        }
        noSharedNames();
        System.out.println(told.size() + " members of the face, " + wrong + " wrong");
        if (wrong != 0) {
            System.exit(1);
        }
    }

    private static void wrong(String what) {
        wrong++;
        System.out.println(what);
    }

    private static Set<String> toldFace(String document) {
        Set<String> face = new TreeSet<>();
        int begin = document.indexOf("public final class Wighall {");
        String body = document.substring(document.indexOf('{', begin) + 1, document.indexOf("\n}", begin));
        for (String line : body.split("\n")) {
            if (!line.isBlank()) {
                String member = line.trim().replace(";", "").replace("public ", "");
                face.add(member.replaceAll("(\\w+) [a-z]\\w*([,)])", "$1$2"));
            }
        }
        return face;
    }

    private static Set<String> builtFace() {
        Set<String> face = new TreeSet<>();
        for (Constructor<?> built : Wighall.class.getDeclaredConstructors()) {
            addShown(face, built, "Wighall");
        }
        for (Method built : Wighall.class.getDeclaredMethods()) {
            addShown(face, built, built.getReturnType().getSimpleName() + " " + built.getName());
        }
        for (Field built : Wighall.class.getDeclaredFields()) {
            if (!Modifier.isPrivate(built.getModifiers())) {
                face.add(built.toString());
            }
        }
        return face;
    }

    private static void addShown(Set<String> face, Executable built, String name) {
        if (!Modifier.isPrivate(built.getModifiers())) {
            face.add(name + "(" + names(built.getParameterTypes()) + ")"
                    + (built.getExceptionTypes().length == 0 ? "" : " throws " + names(built.getExceptionTypes())));
        }
    }

    private static String names(Class<?>[] types) {
        StringBuilder names = new StringBuilder();
        for (Class<?> type : types) {
            names.append(names.length() == 0 ? "" : ", ").append(type.getSimpleName());
        }
        return names.toString();
    }

    /** LANGUAGE.md, rule 1: no private method bears the name of a public one. */
    private static void noSharedNames() {
        Set<String> shown = new TreeSet<>();
        for (Method method : Wighall.class.getDeclaredMethods()) {
            if (Modifier.isPublic(method.getModifiers())) {
                shown.add(method.getName());
            }
        }
        hiddenNames(Wighall.class, shown);
        for (Class<?> inside : Wighall.class.getDeclaredClasses()) {
            hiddenNames(inside, shown);
        }
    }

    private static void hiddenNames(Class<?> of, Set<String> shown) {
        for (Method method : of.getDeclaredMethods()) {
            if (!Modifier.isPublic(method.getModifiers()) && shown.contains(method.getName())) {
                wrong(of.getSimpleName() + " has a hidden method named " + method.getName());
            }
        }
    }
}
