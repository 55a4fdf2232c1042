import java.io.IOException;
import java.lang.reflect.Constructor;
import java.lang.reflect.Field;
import java.lang.reflect.Method;
import java.lang.reflect.Modifier;
import java.nio.file.Files;
import java.nio.file.Path;
import java.util.ArrayList;
import java.util.Arrays;
import java.util.List;
import java.util.Set;
import java.util.TreeSet;
import java.util.regex.Matcher;
import java.util.regex.Pattern;

/** The face of the class, and those rules of LANGUAGE.md that can be read off the class and its source. */
public final class RulesTest {
    private static final String FACE = "int write(long,int); int erase(); int fault(); int town(); int beside(int,int); "
        + "int side(int,int); int far(int,int); int other(int); int goes(int,int,int); int field(int,int); int as(int,int); "
        + "int rotate(int,int); int step(int); int walker(int); int keep(int); int back(int); int home(int); int alike(); "
        + "int like(int); long fixed(int,int,int); long unlike(int); int wardens(int); int inside(int); int rounds(int); "
        + "long walks(int,int,int); long odds(int,int,int,int); int count(int)";
    private static final Set<String> CONSTANTS = Set.of("NONE", "UNKNOWN", "OUTSIDE", "NOT", "FULL");
    private static final Pattern RULED_OUT = Pattern.compile("\\b(throw|throws|try|catch|synchronized|assert|import|package|"
        + "Object|System\\.out|lambda|Exact|hashCode|toString|Long\\.[A-Z]|Integer\\.[A-Z])\\b|->|::");
    /** Rule 3, as far as the class needs it, and what rule 5 lets be static. */
    private static final Set<String> TYPES = Set.of("void", "int", "long", "boolean", "int[]", "long[]", "String");
    private static final Set<String> STATIC_TYPES = Set.of("int", "long", "boolean", "char", "String", "int[]", "long[]", "char[]", "byte[]");
    /** Rule 4, as far as the class needs it. */
    private static final Set<String> LIBRARY = Set.of("Math.max", "Math.floorMod", "Integer.bitCount", "word.length", "word.charAt");
    private static final Pattern CALL = Pattern.compile("\\b(Math|Integer|Long|System|Arrays|String|List|word)\\.\\w+");
    private static final Checks checks = new Checks();

    public static void main(String[] args) throws IOException {
        face();
        List<Class<?>> all = new ArrayList<>(List.of(BallTown.class));
        all.addAll(Arrays.asList(BallTown.class.getDeclaredClasses()));
        checks.due("classes, at most 12", all.size() <= 12 ? 1 : 0, 1);
        for (Class<?> one : all) {
            members(one);
            types(one, all);
        }
        source(Files.readAllLines(Path.of("src/main/java/BallTown.java")));
        checks.end("RulesTest");
    }

    private static String told(Method method) {
        StringBuilder types = new StringBuilder();
        for (Class<?> type : method.getParameterTypes()) {
            types.append(types.length() == 0 ? "" : ",").append(type.getName());
        }
        return method.getReturnType().getName() + " " + method.getName() + "(" + types + ")";
    }

    private static void face() {
        checks.due("public and final", BallTown.class.getModifiers(), Modifier.PUBLIC | Modifier.FINAL);
        Set<String> methods = new TreeSet<>();
        for (Method method : BallTown.class.getDeclaredMethods()) {
            boolean isPrivate = Modifier.isPrivate(method.getModifiers());
            if (!isPrivate) {
                methods.add(told(method));
                checks.due("modifiers of " + method, method.getModifiers(), Modifier.PUBLIC);
            }
        }
        same("methods", methods, new TreeSet<>(Arrays.asList(FACE.split("; "))));
        Set<String> fields = new TreeSet<>();
        for (Field field : BallTown.class.getDeclaredFields()) {
            if (!Modifier.isPrivate(field.getModifiers())) {
                fields.add(field.getName());
                checks.due("type of " + field, field.getType() == int.class ? 1 : 0, 1);
                checks.due("modifiers of " + field, field.getModifiers(), Modifier.PUBLIC | Modifier.STATIC | Modifier.FINAL);
            }
        }
        same("constants", fields, new TreeSet<>(CONSTANTS));
        Constructor<?>[] constructors = BallTown.class.getDeclaredConstructors();
        checks.due("constructors", constructors.length, 1);
        checks.due("its parameters", constructors[0].getParameterCount(), 0);
        checks.due("its modifiers", constructors[0].getModifiers(), Modifier.PUBLIC);
    }

    private static void same(String what, Set<String> got, Set<String> want) {
        checks.due(what + " " + got, got.equals(want) ? 1 : 0, 1);
    }

    private static void members(Class<?> one) {
        Set<String> face = new TreeSet<>();
        for (Method method : BallTown.class.getMethods()) {
            face.add(method.getName());
        }
        for (Method method : one.getDeclaredMethods()) {
            boolean clash = Modifier.isPrivate(method.getModifiers()) && face.contains(method.getName());
            checks.due("private, with a public name: " + method, clash ? 1 : 0, 0);
            checks.due("at most 7 parameters: " + method, method.getParameterCount() <= 7 ? 1 : 0, 1);
        }
        int fields = 0;
        for (Field field : one.getDeclaredFields()) {
            boolean isStatic = Modifier.isStatic(field.getModifiers());
            fields += isStatic ? 0 : 1;
            checks.due("static and not final: " + field, isStatic && !Modifier.isFinal(field.getModifiers()) ? 1 : 0, 0);
        }
        checks.due("at most 20 fields: " + one, fields <= 20 ? 1 : 0, 1);
        boolean inside = one != BallTown.class;
        checks.due("static: " + one, !inside || Modifier.isStatic(one.getModifiers()) ? 1 : 0, 1);
        checks.due("not public inside: " + one, inside && Modifier.isPublic(one.getModifiers()) ? 1 : 0, 0);
    }

    private static void types(Class<?> one, List<Class<?>> own) {
        for (Method method : one.getDeclaredMethods()) {
            type(method + " answers", method.getReturnType(), own);
            for (Class<?> type : method.getParameterTypes()) {
                type(method + " takes", type, own);
            }
        }
        for (Field field : one.getDeclaredFields()) {
            type(field + " is", field.getType(), own);
            boolean fits = STATIC_TYPES.contains(field.getType().getSimpleName());
            checks.due("static: " + field, !Modifier.isStatic(field.getModifiers()) || fits ? 1 : 0, 1);
        }
    }

    private static void type(String what, Class<?> type, List<Class<?>> own) {
        checks.due(what + " " + type, own.contains(type) || TYPES.contains(type.getSimpleName()) ? 1 : 0, 1);
    }

    private static void library(String where, String code) {
        for (Matcher call = CALL.matcher(code); call.find();) {
            checks.due(where + " calls " + call.group(), LIBRARY.contains(call.group()) ? 1 : 0, 1);
        }
    }

    private static void source(List<String> lines) {
        int methodStart = -1;
        String indent = "";
        for (int i = 0; i < lines.size(); i++) {
            String line = lines.get(i);
            String code = line.strip();
            boolean comment = code.startsWith("/**") || code.startsWith("*") || code.startsWith("//");
            checks.due("line " + (i + 1) + " has what is ruled out: " + code, !comment && RULED_OUT.matcher(code).find() ? 1 : 0, 0);
            library("line " + (i + 1), comment ? "" : code);
            boolean makes = !comment && code.contains("new ");
            checks.due("made outside constructors, line " + (i + 1), makes && !code.startsWith("private final ") ? 1 : 0, 0);
            if (code.endsWith(") {") && code.matches("(public |private |static )*[\\w\\[\\]]+( \\w+)?\\(.*") && !code.matches("(if|for|while|switch).*")) {
                methodStart = i;
                indent = line.substring(0, line.indexOf(code));
            }
            if (line.equals(indent + "}") && methodStart >= 0) {
                checks.due("lines of the method at " + (methodStart + 1), i - methodStart <= 60 ? 1 : 0, 1);
                methodStart = -1;
            }
        }
    }
}
