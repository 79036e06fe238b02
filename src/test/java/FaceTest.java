import java.io.IOException;
import java.lang.reflect.Constructor;
import java.lang.reflect.Field;
import java.lang.reflect.Method;
import java.lang.reflect.Modifier;
import java.nio.file.Files;
import java.nio.file.Path;
import java.util.Set;
import java.util.TreeSet;
import java.util.regex.Pattern;

/** The document's face, and the rules of LANGUAGE.md that can be read off the class and its text. */
public final class FaceTest {
    private static final String[] FACE = {
        "constant(int,long,int)", "arrange(int,int)", "shuffle(int,int,long)", "kind(int,int,int)",
        "named(int,long)", "order(int,int)", "about(int,int)", "worth(int,int)", "weigh(int,int)",
        "table(int,int)", "draw(int,int,long,int)", "hold(int,int)", "row(int,int)", "item(int,int,int)",
        "share(int,int)", "family(int)", "is(int,int)", "like(int,int)", "part(int,int,int)",
        "check(int,int,int,int)", "give(int,int,int)", "make(int,int)", "cause(int)", "told(int,int)",
        "take(int,int,int)", "started(int)", "count(int)"};
    private static final String[] RULED_OUT = {
        "\\bthrow\\b", "\\btry\\b", "\\bcatch\\b", "\\bsynchronized\\b", "\\bassert\\b", "->", "::", "\\bimport\\b",
        "\\bpackage\\b", "\\bObject\\b", "Exact\\b", "\\bSystem\\.(?!arraycopy)", "\\bequals\\b", "\\bhashCode\\b",
        "\\btoString\\b", "\\bstatic\\s*\\{", "@"};

    public static void main(String[] args) throws IOException {
        publicMembers();
        otherMembers();
        nestedClasses();
        text();
        Due.end();
    }

    private static void publicMembers() {
        Class<?> face = ConstantKinds.class;
        Due.yes("public and final", Modifier.isPublic(face.getModifiers()) && Modifier.isFinal(face.getModifiers()));
        Due.same("constructors", face.getDeclaredConstructors().length, 1);
        Constructor<?> made = face.getDeclaredConstructors()[0];
        Due.yes("public constructor", Modifier.isPublic(made.getModifiers()) && made.getParameterCount() == 0);
        Set<String> found = new TreeSet<>();
        for (Method method : face.getDeclaredMethods()) {
            if (Modifier.isPublic(method.getModifiers())) {
                found.add(signature(method));
                Due.yes(method.getName() + " answers an int", method.getReturnType() == int.class);
                Due.yes(method.getName() + " is of an object", !Modifier.isStatic(method.getModifiers()));
            }
        }
        Due.yes("the methods are those of the face: " + found, found.equals(new TreeSet<>(Set.of(FACE))));
        Set<String> constants = new TreeSet<>();
        for (Field field : face.getDeclaredFields()) {
            if (!Modifier.isPrivate(field.getModifiers())) {
                constants.add(Modifier.toString(field.getModifiers()) + " " + field.getType() + " " + field.getName());
            }
        }
        Due.yes("the constants are those of the face: " + constants, constants.equals(new TreeSet<>(Set.of(
                "public static final int BAD", "public static final int FULL", "public static final int NONE"))));
    }

    private static void otherMembers() {
        Set<String> names = namesOfFace();
        int fields = 0;
        for (Method method : ConstantKinds.class.getDeclaredMethods()) {
            if (!Modifier.isPublic(method.getModifiers())) {
                Due.yes(method + " is private", Modifier.isPrivate(method.getModifiers()));
                Due.yes(method + " has a name of its own", !names.contains(method.getName()));
            }
        }
        for (Field field : ConstantKinds.class.getDeclaredFields()) {
            Due.yes(field + " is final, if static", isFinalIfStatic(field));
            fields += Modifier.isStatic(field.getModifiers()) ? 0 : 1;
        }
        Due.yes("some twenty fields", fields <= 20);
    }

    private static void nestedClasses() {
        Set<String> names = namesOfFace();
        Class<?>[] nested = ConstantKinds.class.getDeclaredClasses();
        Due.yes("some twelve classes", nested.length + 1 <= 12);
        for (Class<?> inside : nested) {
            int modifiers = inside.getModifiers();
            Due.yes(inside + " is static", Modifier.isStatic(modifiers));
            Due.yes(inside + " is not seen", !Modifier.isPublic(modifiers) && !Modifier.isProtected(modifiers));
            for (Method method : inside.getDeclaredMethods()) {
                Due.yes(method + " has a name of its own", !names.contains(method.getName()));
                Due.yes(method + " has seven parameters at most", method.getParameterCount() <= 7);
            }
            for (Field field : inside.getDeclaredFields()) {
                Due.yes(field + " is final, if static", isFinalIfStatic(field));
            }
        }
    }

    private static void text() throws IOException {
        String source = Files.readString(Path.of("src/main/java/ConstantKinds.java"));
        String code = source.replaceAll("(?s)/\\*.*?\\*/", " ").replaceAll("//[^\n]*", " ");
        for (String ruledOut : RULED_OUT) {
            Due.yes("no " + ruledOut + " in the text", !Pattern.compile(ruledOut).matcher(code).find());
        }
    }

    private static boolean isFinalIfStatic(Field field) {
        return !Modifier.isStatic(field.getModifiers()) || Modifier.isFinal(field.getModifiers());
    }

    private static Set<String> namesOfFace() {
        Set<String> names = new TreeSet<>();
        for (String signature : FACE) {
            names.add(signature.substring(0, signature.indexOf('(')));
        }
        return names;
    }

    private static String signature(Method method) {
        StringBuilder signature = new StringBuilder(method.getName()).append('(');
        for (Class<?> type : method.getParameterTypes()) {
            signature.append(signature.charAt(signature.length() - 1) == '(' ? "" : ",").append(type.getName());
        }
        return signature.append(')').toString();
    }
}
