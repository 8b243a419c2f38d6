import java.io.IOException;
import java.lang.reflect.Constructor;
import java.lang.reflect.Field;
import java.lang.reflect.Method;
import java.lang.reflect.Modifier;
import java.nio.file.Files;
import java.nio.file.Path;
import java.util.ArrayList;
import java.util.HashSet;
import java.util.List;
import java.util.Set;
import java.util.TreeSet;

/** The face is the document's and no wider; the source keeps to those of the language's rules that can be counted. */
public final class FaceTest {
    private static final String[] FACE = {
        "int sign(int)", "boolean end(int)", "int grammar()", "int text()", "int rule(int,int)", "int item(int,int,int,int)",
        "int first(int,int)", "int write()", "long free(int)", "int token(int,int)", "long where(int,int,int)", "int fits()",
        "int blame(int)", "int goesOn(int)", "int hint(int)", "long next(int,int)", "int room(int)", "int nodes()",
        "int node(int,int)", "int ways(int)", "int extent(int,int)", "int off(int)", "int about(int,int)", "int tree(int)",
        "int move(int,int)", "int put(int,int,int)", "int take(int)", "int change(int,int)", "int part(int,int)",
        "int grow(int)", "int undo()", "int repair(int)", "int print()", "int letter(int)", "boolean keep(int)",
        "boolean again(int)", "int alike(int)", "int count(int)",
    };
    private static int wrong;

    public static void main(String[] args) throws IOException {
        Class<?> face = ColumnGrammar.class;
        say(Modifier.isPublic(face.getModifiers()) && Modifier.isFinal(face.getModifiers()), "not public and final");
        Set<String> names = new HashSet<>();
        Set<String> found = new TreeSet<>();
        for (Method method : face.getDeclaredMethods()) {
            if (Modifier.isPublic(method.getModifiers())) {
                found.add(signature(method));
                names.add(method.getName());
            }
        }
        say(found.equals(new TreeSet<>(List.of(FACE))), "the face is " + found);
        List<Class<?>> all = new ArrayList<>(List.of(face.getDeclaredClasses()));
        for (Class<?> inner : all) {
            say(Modifier.isStatic(inner.getModifiers()) && !Modifier.isPublic(inner.getModifiers()), inner + " is seen");
        }
        all.add(face);
        say(all.size() <= 12, "too many classes: " + all.size());
        for (Class<?> one : all) {
            checkClass(one, face, names);
        }
        checkSource(Files.readString(Path.of("src/main/java/ColumnGrammar.java")));
        System.out.println(wrong == 0 ? "the face and the rules hold" : wrong + " wrong");
        if (wrong != 0) {
            System.exit(1);
        }
    }

    private static void say(boolean right, String what) {
        if (!right) {
            wrong++;
            System.out.println(what);
        }
    }

    private static String signature(Method method) {
        StringBuilder b = new StringBuilder(method.getReturnType().getName()).append(' ').append(method.getName()).append('(');
        for (Class<?> type : method.getParameterTypes()) {
            b.append(b.charAt(b.length() - 1) == '(' ? "" : ",").append(type.getName());
        }
        return b.append(')').toString();
    }

    private static void checkClass(Class<?> one, Class<?> face, Set<String> names) {
        int fields = 0;
        for (Field field : one.getDeclaredFields()) {
            boolean isStatic = Modifier.isStatic(field.getModifiers());
            fields += isStatic ? 0 : 1;
            say(!isStatic || Modifier.isFinal(field.getModifiers()), field + " is not final");
            boolean isNone = field.getName().equals("NONE") && Modifier.isPublic(field.getModifiers());
            say(one != face || isNone || Modifier.isPrivate(field.getModifiers()), field + " is seen");
        }
        say(fields <= 20, one + " has " + fields + " fields");
        for (Method method : one.getDeclaredMethods()) {
            say(method.getParameterCount() <= 7, method + " has too many parameters");
            boolean isFace = one == face && Modifier.isPublic(method.getModifiers());
            say(one != face || isFace || Modifier.isPrivate(method.getModifiers()), method + " is seen");
            say(isFace || !names.contains(method.getName()), method + " bears a name of the face");
        }
        for (Constructor<?> made : one.getDeclaredConstructors()) {
            say(made.getParameterCount() <= 7, made + " has too many parameters");
        }
    }

    private static void checkSource(String source) {
        String[] banned = {"catch", "finally", "synchronized", "assert", "->", "::", "Exact(", "instanceof", "static {", "System.out",
            "package ", "double", "float", "import java.io", "hashCode", "Random", "currentTime", "nanoTime"};
        for (String word : banned) {
            say(!source.contains(word), "the source has " + word);
        }
        int length = 0;
        String name = "";
        for (String line : source.split("\n")) {
            if (line.matches(" {4,8}(public |private |static |final )*[\\w\\[\\]]+ ?\\w*\\(.*\\{")) {
                name = line.trim();
                length = 0;
            }
            length++;
            if (line.matches(" {4}(    )?\\}")) {
                say(name.isEmpty() || length <= 60, name + " has " + length + " lines");
                name = "";
            }
            say(line.length() <= 130, "a long line: " + line);
        }
    }
}
