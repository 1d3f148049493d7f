import java.io.IOException;
import java.lang.reflect.Constructor;
import java.lang.reflect.Field;
import java.lang.reflect.Method;
import java.lang.reflect.Modifier;
import java.nio.file.Files;
import java.nio.file.Path;
import java.util.Arrays;
import java.util.Set;
import java.util.TreeSet;
import java.util.regex.Matcher;
import java.util.regex.Pattern;

/** The public face is that of the document, and the source keeps to those rules of LANGUAGE.md that can be seen so. */
public final class FaceTest {
    private static final Path SOURCE = Path.of("src/main/java/ShirtButtons.java");
    private static final Check check = new Check("FaceTest");

    public static void main(String[] args) throws IOException {
        constants();
        members();
        nestedClasses();
        words();
        check.end();
    }

    private static void constants() {
        check.due("UNKNOWN", ShirtButtons.UNKNOWN, -1);
        check.due("OUT_OF_RANGE", ShirtButtons.OUT_OF_RANGE, -2);
        check.due("FULL", ShirtButtons.FULL, -3);
        check.due("NOT_POSSIBLE", ShirtButtons.NOT_POSSIBLE, -4);
        check.due("NONE", ShirtButtons.NONE, -5);
        check.due("REFUSED", ShirtButtons.REFUSED, -10);
    }

    private static void members() {
        Set<String> wants = new TreeSet<>(Arrays.asList(
            "UNKNOWN", "OUT_OF_RANGE", "FULL", "NOT_POSSIBLE", "NONE", "REFUSED", "ShirtButtons()",
            "read()", "sort(int)", "letGo()", "pour(int)", "shirt(int,int)", "polish(int)", "set(int,int)",
            "type(char)", "clearText()", "undo()", "keep()", "restore()", "button(int,int)", "inBin(int,int)",
            "bin(int,int)", "total(int)", "goesTo(int)", "reason(int,int)", "leastSpread(int,int)", "shirts(int)",
            "ifMesh(int,int,int)"));
        Set<String> found = new TreeSet<>();
        Set<String> hidden = new TreeSet<>();
        for (Field field : ShirtButtons.class.getDeclaredFields()) {
            if (!Modifier.isPrivate(field.getModifiers())) {
                found.add(field.getName());
            }
        }
        for (Constructor<?> made : ShirtButtons.class.getDeclaredConstructors()) {
            found.add("ShirtButtons" + types(made.getParameterTypes()));
        }
        for (Method method : ShirtButtons.class.getDeclaredMethods()) {
            boolean isHidden = Modifier.isPrivate(method.getModifiers());
            (isHidden ? hidden : found).add(method.getName() + types(method.getParameterTypes()));
        }
        check.due("the face", found, wants);
        for (String name : hidden) {
            check.due("a private " + name + " bears a public name", isPublicName(name, wants), false);
        }
        check.due("public and final", Modifier.toString(ShirtButtons.class.getModifiers()), "public final");
    }

    private static boolean isPublicName(String hidden, Set<String> face) {
        String name = hidden.substring(0, hidden.indexOf('(') + 1);
        return face.stream().anyMatch(one -> one.startsWith(name));
    }

    private static String types(Class<?>[] types) {
        StringBuilder all = new StringBuilder("(");
        for (Class<?> type : types) {
            all.append(all.length() > 1 ? "," : "").append(type.getSimpleName());
        }
        return all.append(")").toString();
    }

    private static void nestedClasses() {
        Class<?>[] nested = ShirtButtons.class.getDeclaredClasses();
        check.due("some twelve classes", nested.length <= 11, true);
        for (Class<?> one : nested) {
            check.due(one + " is static", Modifier.isStatic(one.getModifiers()), true);
            check.due(one + " is public", Modifier.isPublic(one.getModifiers()), false);
            check.due(one + " has some twenty fields", one.getDeclaredFields().length <= 21, true);
        }
    }

    /** Comments are left out, as they may say what the code mustn't. */
    private static void words() throws IOException {
        String code = Files.readString(SOURCE).replaceAll("(?s)/\\*.*?\\*/", "").replaceAll("//.*", "");
        String banned = "\\b(throw|throws|try|catch|synchronized|assert|import|package|\\w+Exact|hashCode|toString"
            + "|equals|System\\.(?!arraycopy)\\w+|Thread|Random)\\b|->|::|[^\\x00-\\x7f]";
        Matcher matcher = Pattern.compile(banned).matcher(code);
        while (matcher.find()) {
            check.due("a word that LANGUAGE.md rules out", matcher.group(), "none");
        }
        check.due("the source was found", code.contains("class ShirtButtons"), true);
    }
}
