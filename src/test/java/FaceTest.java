import java.io.IOException;
import java.lang.reflect.Constructor;
import java.lang.reflect.Field;
import java.lang.reflect.Method;
import java.lang.reflect.Modifier;
import java.nio.file.Files;
import java.nio.file.Path;
import java.util.Arrays;
import java.util.List;
import java.util.Set;
import java.util.TreeSet;

/** The public face, and the rules of LANGUAGE.md that can be seen from the text or the class. */
public final class FaceTest {
    private static final Check CHECK = new Check("FaceTest");
    private static final String SOURCE = "src/main/java/CharactersMultiplied.java";
    private static final String[] FACE = {
        "int of(int,int)", "int shape(int)", "int shapes(int,int)", "int hook(int,int,int)", "int rims(int,int,int)",
        "int height(int,int,int)", "int character(int,int)", "long odds(int,int,int)", "int number(int,int,int)",
        "int product(int,int,int)", "int greatest(int,int)", "int grown(int,int)", "int settled(int,int,int,int)",
        "int lots(int,int,int,int)", "int letter(int)", "int reads(int)", "int clear(int)", "int sum(int,int)",
        "int coefficient(int,int)", "int makes(int,int,int,int)", "int changed(int,int)", "long value(int,int)",
        "long inner(int,int)", "int list(int,int)", "int put(int,int,int)", "long look(int,int)", "int lays(int,int,int)",
        "int judge(int,int)", "int which(int,int,int)", "int undo()", "int image()", "int on()", "int count(int)",
    };
    /** What the rules keep out of the text, comments and written texts left aside. */
    private static final String[] NOT_IN_THE_TEXT = {
        "package ", "::", "synchronized", "assert ", "finally", "Exact(", "static {", "System.out", "System.err",
        "System.nano", "System.current", "Thread", "Random", "java.io", "java.nio", "java.net",
    };

    public static void main(String[] args) throws IOException {
        face();
        members();
        text(Files.readString(Path.of(SOURCE)));
        CHECK.end();
    }

    private static void face() {
        Class<?> type = CharactersMultiplied.class;
        CHECK.holds("public and final", Modifier.isPublic(type.getModifiers()) && Modifier.isFinal(type.getModifiers()));
        Set<String> found = new TreeSet<>();
        for (Method method : type.getDeclaredMethods()) {
            if (!method.isSynthetic() && !Modifier.isPrivate(method.getModifiers())) {
                found.add(method.getReturnType() + " " + method.getName() + parameters(method));
                CHECK.holds(method.getName() + " is public", Modifier.isPublic(method.getModifiers()));
            }
        }
        CHECK.holds("the face is " + found, found.equals(new TreeSet<>(Arrays.asList(FACE))));
        Constructor<?>[] constructors = type.getDeclaredConstructors();
        CHECK.holds("one public constructor without parameters", constructors.length == 1
            && constructors[0].getParameterCount() == 0 && Modifier.isPublic(constructors[0].getModifiers()));
    }

    private static String parameters(Method method) {
        StringBuilder told = new StringBuilder("(");
        for (Class<?> type : method.getParameterTypes()) {
            told.append(told.length() > 1 ? "," : "").append(type);
        }
        return told.append(")").toString();
    }

    private static void members() {
        Class<?> type = CharactersMultiplied.class;
        Set<String> faceNames = new TreeSet<>();
        for (String method : FACE) {
            faceNames.add(method.substring(method.indexOf(' ') + 1, method.indexOf('(')));
        }
        for (Field field : type.getDeclaredFields()) {
            CHECK.holds(field.getName() + " is private", Modifier.isPrivate(field.getModifiers()));
        }
        List<Class<?>> inside = Arrays.asList(type.getDeclaredClasses());
        CHECK.holds("some twelve classes at most", inside.size() <= 13);
        privateNames(type, faceNames);
        for (Class<?> nested : inside) {
            CHECK.holds(nested.getName() + " is static", Modifier.isStatic(nested.getModifiers()));
            CHECK.holds(nested.getName() + " is no part of the face", !Modifier.isPublic(nested.getModifiers()));
            privateNames(nested, faceNames);
        }
    }

    private static void privateNames(Class<?> type, Set<String> faceNames) {
        for (Method method : type.getDeclaredMethods()) {
            boolean hidden = Modifier.isPrivate(method.getModifiers());
            CHECK.holds(method + " bears no name of the face", !hidden || !faceNames.contains(method.getName()));
            CHECK.holds(method + " has seven parameters at most", method.getParameterCount() <= 7);
        }
        int fields = 0;
        for (Field field : type.getDeclaredFields()) {
            boolean constant = Modifier.isStatic(field.getModifiers());
            CHECK.holds(field + " is final, if static", !constant || Modifier.isFinal(field.getModifiers()));
            fields += constant ? 0 : 1;
        }
        CHECK.holds(type + " has some twenty fields at most", fields <= 20);
    }

    private static void text(String text) {
        String code = text.replaceAll("(?s)/\\*.*?\\*/", "").replaceAll("//[^\n]*", "").replaceAll("\"[^\"\n]*\"", "");
        for (String word : NOT_IN_THE_TEXT) {
            CHECK.holds("no " + word, !code.contains(word));
        }
        int length = 0;
        for (String line : text.split("\n")) {
            length++;
            if (line.matches("( {4}| {8})\\S.*\\) \\{")) {
                length = 0;
            } else if (line.matches("( {4}| {8})\\}")) {
                CHECK.holds("a method of some sixty lines at most", length <= 66 || line.startsWith("    }"));
            }
        }
    }
}
