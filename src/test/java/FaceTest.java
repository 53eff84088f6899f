import java.io.IOException;
import java.lang.reflect.Field;
import java.lang.reflect.Method;
import java.lang.reflect.Modifier;
import java.nio.file.Files;
import java.nio.file.Path;
import java.util.ArrayList;
import java.util.Arrays;
import java.util.Collections;
import java.util.List;

/** The public face of the class, and those rules of LANGUAGE.md that can be seen by a search. */
public final class FaceTest {
    private static final String[] METHODS = {
        "int addClass()", "int setParent(int,int)", "int want(int,int)", "int setSize(int,int)",
        "int readLink()", "int setCounts(int,int,int,int)", "int removeLink(int)", "int hold(int,int)",
        "int adopt()", "int type(char)", "int clearText()", "int undo()", "int keep()", "int restore()",
        "int classTold(int,int)", "int link(int,int)", "float size(int)", "int least(int)", "int why(int)",
        "int isForced(int)", "int oneMore(int)", "int isIdle(int,int,boolean)", "int repair(int)",
        "int keeps(int)", "int joined(int,int,int)", "int degree(int,int,int)", "float average(int,int)",
        "float cost()", "float share(int)", "int count(int)"
    };
    private static final String[] CONSTANTS = {"BAD_VALUE", "FULL", "NONE", "NOT_POSSIBLE", "UNKNOWN"};
    private static final String[] FORBIDDEN = {
        "package ", "import ", "->", "::", "Float.", "Double.", "Integer.", "Long.", "Character.", "Math.round",
        "Exact(", "synchronized", "assert ", "finally", "try ", "catch", "throw ", "while (true)", "for (;;)",
        "protected ", "Random", "System.out", "System.currentTimeMillis", "System.nanoTime", "Thread"
    };

    public static void main(String[] args) throws IOException {
        Class<?> face = LeastPopulations.class;
        Check.due("public and final", face.getModifiers(), Modifier.PUBLIC | Modifier.FINAL);
        Check.due("constructors", face.getDeclaredConstructors().length, 1);
        Check.due("a public constructor", face.getDeclaredConstructors()[0].getModifiers(), Modifier.PUBLIC);
        methods(face);
        fields(face);
        for (Class<?> inside : face.getDeclaredClasses()) {
            boolean fine = Modifier.isStatic(inside.getModifiers()) && !Modifier.isPublic(inside.getModifiers());
            Check.due(inside + ": static, not public", fine ? 1 : 0, 1);
            Check.due(inside + ": at most 20 fields", inside.getDeclaredFields().length <= 20 ? 1 : 0, 1);
        }
        source(Files.readAllLines(Path.of("src/main/java/LeastPopulations.java")));
        Check.end("FaceTest");
    }

    private static void methods(Class<?> face) {
        List<String> visible = new ArrayList<>();
        List<String> names = new ArrayList<>();
        for (Method method : face.getDeclaredMethods()) {
            if (!Modifier.isPrivate(method.getModifiers())) {
                visible.add(told(method));
                names.add(method.getName());
                Check.due(told(method) + ": public only", method.getModifiers(), Modifier.PUBLIC);
            }
        }
        List<String> due = new ArrayList<>(Arrays.asList(METHODS));
        Collections.sort(due);
        Collections.sort(visible);
        same("methods", visible, due);
        for (Method method : face.getDeclaredMethods()) {
            if (Modifier.isPrivate(method.getModifiers()) && names.contains(method.getName())) {
                Check.tell("the private " + method.getName() + " bears the name of a public method");
            }
        }
    }

    private static String told(Method method) {
        StringBuilder told = new StringBuilder(method.getReturnType().getName() + " " + method.getName() + "(");
        for (Class<?> parameter : method.getParameterTypes()) {
            told.append(told.charAt(told.length() - 1) == '(' ? "" : ",").append(parameter.getName());
        }
        return told.append(")").toString();
    }

    private static void fields(Class<?> face) {
        List<String> visible = new ArrayList<>();
        for (Field field : face.getDeclaredFields()) {
            int modifiers = field.getModifiers();
            if (!Modifier.isPrivate(modifiers)) {
                visible.add(field.getName());
                Check.due(field + ": a constant", modifiers, Modifier.PUBLIC | Modifier.STATIC | Modifier.FINAL);
            }
            if (Modifier.isStatic(modifiers) && !Modifier.isFinal(modifiers)) {
                Check.tell(field + " is static, but not final");
            }
        }
        Collections.sort(visible);
        same("constants", visible, Arrays.asList(CONSTANTS));
    }

    private static void same(String what, List<String> got, List<String> due) {
        Check.due(what + ": their number", got.size(), due.size());
        if (!got.equals(due)) {
            Check.tell(what + " are " + got + ", due are " + due);
        }
    }

    private static void source(List<String> lines) {
        for (int number = 0; number < lines.size(); number++) {
            String line = lines.get(number);
            int comment = line.indexOf("//");
            String code = comment < 0 ? line : line.substring(0, comment);
            if (code.trim().startsWith("*") || code.trim().startsWith("/*")) {
                continue;
            }
            for (String forbidden : FORBIDDEN) {
                if (code.contains(forbidden)) {
                    Check.tell("line " + (number + 1) + " of the source has '" + forbidden + "'");
                }
            }
        }
    }
}
