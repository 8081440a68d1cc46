import java.io.IOException;
import java.lang.reflect.Constructor;
import java.lang.reflect.Field;
import java.lang.reflect.Method;
import java.lang.reflect.Modifier;
import java.nio.file.Files;
import java.nio.file.Path;
import java.util.HashSet;
import java.util.Set;
import java.util.TreeSet;
import java.util.regex.Matcher;
import java.util.regex.Pattern;

/** The public face, and of the rules of LANGUAGE.md those that can be seen in the text or the classes. */
public final class FaceTest {
    private static final String[] FACE = {
        "back(int):int", "best(int,int,int,int,int):int", "call(int,int):int", "cell(int,int):int", "clear():int",
        "count(int):int", "ends(int):int", "forget():int", "guards(int,int):int", "hears(int,int,int,int,int):int",
        "keep(int):int", "level(int,int,int):int", "lost(int,int,int,int,int,int):long", "offers(int,int):int",
        "pair(int,int):int", "queued(int,int):int", "seeds(int):int", "sees(int,int):int", "tells():int",
        "type(int):int", "undo():int", "unseen(int,int):int",
    };
    private static final String[] CONSTANTS = {"BAD=-1", "FULL=-3", "NO=-1000000", "NONE=-9", "STATE=-2"};

    public static void main(String[] args) throws Exception {
        faceOfDocument();
        face();
        constants();
        constructors();
        nested();
        text();
        Due.close();
    }

    private static void same(String what, Set<String> got, String[] want) {
        Set<String> due = new TreeSet<>();
        for (String one : want) {
            due.add(one);
        }
        if (!got.equals(due)) {
            System.out.println(what + ": " + got + ", due is " + due);
        }
        Due.due(what, got.equals(due) ? 1 : 0, 1);
    }

    /** What stands above is what the document says under "The public face". */
    private static void faceOfDocument() throws IOException {
        String document = Files.readString(Path.of("../shared/DOC.md"));
        Set<String> methods = new TreeSet<>();
        Matcher method = Pattern.compile("public (int|long) (\\w+)\\(([^)]*)\\);").matcher(document);
        while (method.find()) {
            String types = method.group(3).replaceAll("(\\w+) \\w+", "$1").replace(" ", "");
            methods.add(method.group(2) + "(" + types + "):" + method.group(1));
        }
        same("methods of the document", methods, FACE);
        Set<String> constants = new TreeSet<>();
        Matcher all = Pattern.compile("public static final int ([^;]*);").matcher(document);
        Due.due("constants of the document", all.find() ? 1 : 0, 1);
        for (String constant : all.group(1).split(",")) {
            constants.add(constant.replace(" ", ""));
        }
        same("constants of the document", constants, CONSTANTS);
    }

    private static void face() {
        Set<String> open = new TreeSet<>();
        Set<String> names = new HashSet<>();
        for (Method method : GuardCells.class.getDeclaredMethods()) {
            if (!Modifier.isPrivate(method.getModifiers())) {
                open.add(signature(method));
                names.add(method.getName());
            }
        }
        same("methods", open, FACE);
        for (Method method : GuardCells.class.getDeclaredMethods()) {
            boolean hidden = Modifier.isPrivate(method.getModifiers());
            Due.due("a private " + method.getName(), hidden && names.contains(method.getName()) ? 1 : 0, 0);
        }
        Due.due("public and final", GuardCells.class.getModifiers(), Modifier.PUBLIC | Modifier.FINAL);
    }

    private static String signature(Method method) {
        StringBuilder all = new StringBuilder(method.getName()).append('(');
        String comma = "";
        for (Class<?> parameter : method.getParameterTypes()) {
            all.append(comma).append(parameter.getName());
            comma = ",";
        }
        return all.append("):").append(method.getReturnType().getName()).toString();
    }

    private static void constants() throws IllegalAccessException {
        Set<String> open = new TreeSet<>();
        for (Field field : GuardCells.class.getDeclaredFields()) {
            if (!Modifier.isPrivate(field.getModifiers())) {
                open.add(field.getName() + "=" + field.getInt(null));
                Due.due(field.getName() + " is final", Modifier.isFinal(field.getModifiers()) ? 1 : 0, 1);
            }
        }
        same("constants", open, CONSTANTS);
    }

    private static void constructors() {
        Constructor<?>[] all = GuardCells.class.getDeclaredConstructors();
        Due.due("constructors", all.length, 1);
        Due.due("parameters", all[0].getParameterCount(), 0);
        Due.due("public", all[0].getModifiers(), Modifier.PUBLIC);
    }

    private static void nested() {
        Class<?>[] all = GuardCells.class.getDeclaredClasses();
        Due.due("twelve classes at most", all.length <= 11 ? 1 : 0, 1);
        for (Class<?> one : all) {
            Due.due(one.getName() + " is static", Modifier.isStatic(one.getModifiers()) ? 1 : 0, 1);
            int fields = 0;
            for (Field field : one.getDeclaredFields()) {
                boolean constant = Modifier.isStatic(field.getModifiers());
                fields += constant ? 0 : 1;
                Due.due(field + " is no static state", !constant || Modifier.isFinal(field.getModifiers()) ? 1 : 0, 1);
            }
            Due.due(one.getName() + " has twenty fields at most", fields <= 20 ? 1 : 0, 1);
            for (Method method : one.getDeclaredMethods()) {
                Due.due(method + " has seven parameters at most", method.getParameterCount() <= 7 ? 1 : 0, 1);
            }
        }
    }

    private static void text() throws IOException {
        String source = Files.readString(Path.of("src/main/java/GuardCells.java"));
        String bare = source.replaceAll("(?s)/\\*.*?\\*/", " ").replaceAll("//[^\n]*", " ");
        Matcher word = Pattern.compile(
                "\\b(throw|throws|try|catch|synchronized|assert|package|double|float|Object|equals|hashCode|toString)\\b"
                + "|Exact\\b|->|::").matcher(bare);
        while (word.find()) {
            Due.due("the text has '" + word.group() + "'", 1, 0);
        }
        Matcher imported = Pattern.compile("import ([^;]*);").matcher(bare);
        while (imported.find()) {
            Due.due("import " + imported.group(1), imported.group(1).equals("java.util.Arrays") ? 1 : 0, 1);
        }
    }
}
