import java.io.IOException;
import java.lang.reflect.Constructor;
import java.lang.reflect.Field;
import java.lang.reflect.Method;
import java.lang.reflect.Modifier;
import java.nio.file.Files;
import java.nio.file.Path;
import java.util.ArrayList;
import java.util.Arrays;
import java.util.List;
import java.util.Set;
import java.util.TreeSet;
import java.util.regex.Matcher;
import java.util.regex.Pattern;

/** The public face, and the rules of LANGUAGE.md that can be read off the source. */
public final class SourceTest {
    private static final Path SOURCE = Path.of("src/main/java/Gliderwright.java");
    private static final String[] FACE = {
        "int type(char) IllegalArgumentException IllegalStateException",
        "boolean rule()",
        "void table(int,int) IllegalArgumentException",
        "int place(int,int,int) IndexOutOfBoundsException IllegalArgumentException",
        "int set(int,int) IndexOutOfBoundsException IllegalArgumentException",
        "int row(int) IndexOutOfBoundsException",
        "int tick(int) IllegalArgumentException",
        "int would(int) IllegalArgumentException",
        "int nature(int,int) IllegalArgumentException",
        "int canon(int) IndexOutOfBoundsException",
        "int record() IllegalStateException",
        "int recorded(int) IndexOutOfBoundsException",
        "int known()",
        "int objects()",
        "int object(int,boolean) IndexOutOfBoundsException",
        "int soup(int,int,int) IllegalArgumentException",
        "int blocks(int,boolean) IllegalArgumentException",
        "int mark() IllegalStateException",
        "int undo() IllegalStateException",
        "int ring(int,int,int,int) IllegalArgumentException",
        "int parents(int,int,int) IllegalArgumentException",
        "int parentsAnew(int,int,int) IllegalArgumentException",
        "int parent(int,int,int) IllegalArgumentException",
    };
    /** What the rules forbid, as far as a plain look at the words tells it. */
    private static final String[] FORBIDDEN = {"->", "::", "\\btry\\b", "\\bcatch\\b", "\\bfinally\\b", "\\bassert\\b",
        "\\bsynchronized\\b", "\\bdouble\\b", "\\bfloat\\b", "\\bnew (?!Board|Canons|Catalog|Parts|Marks|Rings"
        + "|StringBuilder|int\\[|IllegalArgumentException|IllegalStateException|IndexOutOfBoundsException)",
        "\"\\s*\\+|\\+\\s*\"", "\\bSystem\\b", "\\bThread\\b", "^package\\b", "\\bwhile\\b",
        "\\bthrow (?!new )", "\\bthrows [^I]",
        "\\bimport (?!java\\.util\\.Arrays;)", "\\bextends\\b", "\\bimplements\\b", "\\bString\\.", "[^\\x00-\\x7f]"};
    private static final int LONGEST_METHOD = 60;

    private final Check check = new Check();

    public static void main(String[] args) throws IOException {
        SourceTest all = new SourceTest();
        all.face();
        all.nested();
        all.words();
        all.methodLengths();
        all.check.end();
    }

    private static String told(Method method) {
        StringBuilder told = new StringBuilder(method.getReturnType() + " " + method.getName() + "(");
        for (int at = 0; at < method.getParameterCount(); at++) {
            told.append(at == 0 ? "" : ",").append(method.getParameterTypes()[at]);
        }
        told.append(")");
        for (Class<?> thrown : method.getExceptionTypes()) {
            told.append(" ").append(thrown.getSimpleName());
        }
        return told.toString();
    }

    private void face() {
        check.part("the face");
        check.same("the class", Modifier.toString(Gliderwright.class.getModifiers()), "public final");
        Set<String> methods = new TreeSet<>();
        for (Method method : Gliderwright.class.getDeclaredMethods()) {
            if (!Modifier.isPrivate(method.getModifiers())) {
                check.same(method.getName(), Modifier.toString(method.getModifiers()), "public");
                methods.add(told(method));
            }
        }
        check.same("methods", methods, new TreeSet<>(Arrays.asList(FACE)));
        List<String> fields = new ArrayList<>();
        for (Field field : Gliderwright.class.getDeclaredFields()) {
            if (!Modifier.isPrivate(field.getModifiers())) {
                fields.add(Modifier.toString(field.getModifiers()) + " " + field.getType() + " " + field.getName());
            }
        }
        String constant = "public static final int ";
        check.same("constants", fields, List.of(constant + "NONE", constant + "EMPTY", constant + "REST",
                constant + "TURNER", constant + "TRAVELLER", constant + "UNKNOWN"));
        Constructor<?>[] constructors = Gliderwright.class.getDeclaredConstructors();
        check.same("constructors", constructors.length, 1);
        check.same("the constructor", constructors[0].toString(), "public Gliderwright()");
    }

    private void nested() {
        check.part("the classes inside");
        Class<?>[] inside = Gliderwright.class.getDeclaredClasses();
        check.same("at most twelve", inside.length <= 12, true);
        Set<String> names = new TreeSet<>();
        for (String line : FACE) {
            names.add(line.replaceAll("^\\S+ (\\w+).*", "$1"));
        }
        List<Class<?>> all = new ArrayList<>(Arrays.asList(inside));
        for (Class<?> one : inside) {
            check.same(one.getName(), Modifier.isStatic(one.getModifiers()), true);
            check.same(one.getName(), Modifier.isPublic(one.getModifiers()), false);
        }
        all.add(Gliderwright.class);
        for (Class<?> one : all) {
            int fields = 0;
            for (Field field : one.getDeclaredFields()) {
                boolean isStatic = Modifier.isStatic(field.getModifiers());
                fields += isStatic ? 0 : 1;
                check.same(field + " is final", isStatic && !Modifier.isFinal(field.getModifiers()), false);
            }
            check.same(one.getName() + " has some twenty fields", fields <= 20, true);
            for (Method method : one.getDeclaredMethods()) {
                boolean isFace = one == Gliderwright.class && Modifier.isPublic(method.getModifiers());
                check.same(method + " bears a name of its own", !isFace && names.contains(method.getName()), false);
                check.same(method + " has at most seven parameters", method.getParameterCount() <= 7, true);
            }
        }
    }

    private static String withoutComments(String source) {
        return source.replaceAll("(?s)/\\*.*?\\*/", "").replaceAll("//[^\n]*", "");
    }

    private void words() throws IOException {
        check.part("the words");
        String source = withoutComments(Files.readString(SOURCE));
        for (String forbidden : FORBIDDEN) {
            Matcher found = Pattern.compile(forbidden, Pattern.MULTILINE).matcher(source);
            check.same(forbidden, found.find() ? found.group() : "nothing", "nothing");
        }
    }

    private void methodLengths() throws IOException {
        check.part("the methods");
        int started = 0;
        List<String> lines = Files.readAllLines(SOURCE);
        for (int at = 0; at < lines.size(); at++) {
            String line = lines.get(at);
            check.same("line " + (at + 1) + " is short", line.length() <= 120, true);
            if (line.matches(" {4}( {4})?[\\w(][^=;]*\\) ?(throws [\\w, ]+)?\\{")) {
                started = at;
            }
            if (line.matches(" {4}( {4})?}")) {
                check.same("the method that ends in line " + (at + 1), at - started <= LONGEST_METHOD, true);
            }
        }
    }
}
