import java.io.IOException;
import java.lang.reflect.Constructor;
import java.lang.reflect.Field;
import java.lang.reflect.Method;
import java.lang.reflect.Modifier;
import java.nio.file.Files;
import java.nio.file.Path;
import java.util.ArrayList;
import java.util.HashSet;
import java.util.List;
import java.util.Set;
import java.util.TreeSet;
import java.util.regex.Matcher;
import java.util.regex.Pattern;

/** The public face and the rules of LANGUAGE.md that a look at the class and its text can show. */
public final class FaceTest {
    private static final Due DUE = new Due();
    private static final String[] FACE = {
        "int row(int,int)", "int put(int,int,int)", "int lose()", "int corner()", "int place(int,int,int)",
        "int face(int)", "int undo()", "int turn(int)", "int clear()", "int fault(int)", "int many(int,int)",
        "int at(int,int,int)", "int edge(int,int,int)", "int size(int,int)", "int ring(int,int,int)",
        "int middle(int,int,int)", "int box(int,int,int)", "long room(int)", "int cut(int,int,int)",
        "int near(int,int,int,int)", "int move(int,int,int,int,int)", "int moved(int,int,int)", "int cause()",
        "int count(int)", "long digest()"};
    private static final String[] BANNED = {"throw", "throws", "try", "catch", "finally", "synchronized", "assert",
        "import", "package", "protected", "double", "float", "Exact", "->", "::", "equals", "hashCode", "toString"};

    public static void main(String[] args) throws IOException {
        methods();
        constants();
        classes();
        text(Files.readString(Path.of("src/main/java/MidSkins.java")));
        DUE.end();
    }

    private static String signature(Method method) {
        List<String> types = new ArrayList<>();
        for (Class<?> type : method.getParameterTypes()) types.add(type.getName());
        return method.getReturnType().getName() + " " + method.getName() + "(" + String.join(",", types) + ")";
    }

    private static void methods() {
        Set<String> open = new TreeSet<>();
        Set<String> names = new HashSet<>();
        for (Method method : MidSkins.class.getDeclaredMethods()) {
            if (Modifier.isPrivate(method.getModifiers())) continue;
            DUE.holds(method + " is public, not static", Modifier.isPublic(method.getModifiers()) && !Modifier.isStatic(method.getModifiers()));
            open.add(signature(method));
            names.add(method.getName());
        }
        Set<String> due = new TreeSet<>(List.of(FACE));
        DUE.holds("the face is " + open + ", due " + due, open.equals(due));
        for (Method method : MidSkins.class.getDeclaredMethods()) {
            boolean closed = Modifier.isPrivate(method.getModifiers());
            DUE.holds("private " + method.getName(), !closed || !names.contains(method.getName()));
        }
        for (Constructor<?> made : MidSkins.class.getDeclaredConstructors()) {
            DUE.holds("constructor", Modifier.isPublic(made.getModifiers()) && made.getParameterCount() == 0);
        }
    }

    private static void constants() {
        Set<String> open = new TreeSet<>();
        for (Field field : MidSkins.class.getDeclaredFields()) {
            boolean fixed = Modifier.isStatic(field.getModifiers());
            DUE.holds(field + " is final if static", !fixed || Modifier.isFinal(field.getModifiers()));
            if (!Modifier.isPrivate(field.getModifiers())) open.add(field.getName());
        }
        DUE.holds("constants " + open, open.equals(Set.of("NONE", "UNKNOWN", "OUTSIDE", "STATE", "FULL")));
        DUE.is("NONE", MidSkins.NONE, -1);
        DUE.is("UNKNOWN", MidSkins.UNKNOWN, -101);
        DUE.is("OUTSIDE", MidSkins.OUTSIDE, -102);
        DUE.is("STATE", MidSkins.STATE, -103);
        DUE.is("FULL", MidSkins.FULL, -104);
    }

    private static void classes() {
        DUE.holds("final", Modifier.isFinal(MidSkins.class.getModifiers()));
        for (Class<?> inside : MidSkins.class.getDeclaredClasses()) {
            DUE.holds(inside + " is static", Modifier.isStatic(inside.getModifiers()));
            DUE.holds(inside + " is not public", !Modifier.isPublic(inside.getModifiers()));
            DUE.holds(inside + " has few fields", inside.getDeclaredFields().length <= 20);
            for (Method method : inside.getDeclaredMethods()) {
                DUE.holds(method + " has few parameters", method.getParameterCount() <= 7);
            }
        }
    }

    private static void text(String source) {
        String code = source.replaceAll("(?s)/\\*.*?\\*/", "").replaceAll("//[^\n]*", "");
        for (String word : BANNED) {
            boolean plain = Character.isLetter(word.charAt(0));
            Matcher found = Pattern.compile(plain ? "\\b\\w*" + word + "\\b" : Pattern.quote(word)).matcher(code);
            boolean there = false;
            while (found.find()) there |= found.group().equals(word) || word.equals("Exact");
            DUE.holds("the text has " + word, !there);
        }
        DUE.holds("characters 0 to 255", source.chars().allMatch(c -> c <= 255));
    }
}
