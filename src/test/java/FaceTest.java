import java.io.IOException;
import java.lang.reflect.Constructor;
import java.lang.reflect.Field;
import java.lang.reflect.Method;
import java.lang.reflect.Modifier;
import java.nio.charset.StandardCharsets;
import java.nio.file.Files;
import java.nio.file.Path;
import java.util.ArrayList;
import java.util.Arrays;
import java.util.Collections;
import java.util.List;
import java.util.TreeSet;

/** The public face, and those rules of LANGUAGE.md that can be seen from the members or the text. */
public final class FaceTest {
    private static final String OUT = "IndexOutOfBoundsException";
    private static final String ARGUMENT = "IllegalArgumentException";
    private static final String STATE = "IllegalStateException";

    private static final String[] FACE = {
        "int insert(int,int) " + OUT + " " + ARGUMENT + " " + STATE,
        "int move(int,int) " + OUT,
        "int drop(int) " + OUT,
        "int pages(int,int) " + OUT + " " + ARGUMENT,
        "int join(int) " + OUT + " " + STATE,
        "int split(int,int) " + OUT + " " + ARGUMENT + " " + STATE,
        "int cite(int,int,int) " + OUT + " " + ARGUMENT + " " + STATE,
        "int clean(int) " + OUT,
        "int print(int) " + OUT,
        "int set(int) " + ARGUMENT,
        "int append(int) " + ARGUMENT + " " + STATE,
        "int clearBuffer()",
        "int firstError()",
        "int citeAll(int) " + OUT + " " + ARGUMENT + " " + STATE,
        "int undo() " + STATE,
        "int exhibit(int,int) " + ARGUMENT,
        "int citation(int,int,int) " + OUT + " " + ARGUMENT,
        "int paragraph(int,int) " + OUT + " " + ARGUMENT,
        "int table(int) " + OUT,
        "int count(int) " + ARGUMENT,
        "int ifInserted(int,int,int) " + OUT + " " + ARGUMENT,
        "int ifDropped(int,int) " + OUT + " " + ARGUMENT,
        "int bestMove(int) " + OUT,
        "int leastPages(int) " + ARGUMENT,
        "double citedShare()",
        "long digest()",
    };

    public static void main(String[] args) throws IOException {
        Check check = new Check("FaceTest");
        checkMembers(check);
        checkInsideNames(check);
        checkSource(check);
        check.close();
    }

    private static void checkMembers(Check check) {
        Class<?> type = BriefBuilder.class;
        check.due("public and final", type.getModifiers() & (Modifier.PUBLIC | Modifier.FINAL),
                Modifier.PUBLIC | Modifier.FINAL);
        List<String> methods = new ArrayList<>();
        for (Method method : type.getDeclaredMethods()) {
            if (!Modifier.isPrivate(method.getModifiers()) && !method.isSynthetic()) {
                methods.add(described(method));
            }
        }
        List<String> face = new ArrayList<>(Arrays.asList(FACE));
        Collections.sort(methods);
        Collections.sort(face);
        check.dueText("methods", methods.toString(), face.toString());
        List<String> fields = new ArrayList<>();
        for (Field field : type.getDeclaredFields()) {
            if (!Modifier.isPrivate(field.getModifiers()) && !field.isSynthetic()) {
                fields.add(Modifier.toString(field.getModifiers()) + " " + field.getType() + " " + field.getName());
            }
        }
        check.dueText("fields", fields.toString(), "[public static final int NONE]");
        Constructor<?>[] constructors = type.getDeclaredConstructors();
        check.due("constructors", constructors.length, 1);
        check.dueText("constructor", constructors[0].toString(), "public BriefBuilder()");
        check.due("NONE", BriefBuilder.NONE, -1);
    }

    private static String described(Method method) {
        StringBuilder line = new StringBuilder();
        line.append(method.getReturnType()).append(' ').append(method.getName()).append('(');
        for (int i = 0; i < method.getParameterCount(); i++) {
            line.append(i == 0 ? "" : ",").append(method.getParameterTypes()[i]);
        }
        line.append(')');
        for (Class<?> exception : method.getExceptionTypes()) {
            line.append(' ').append(exception.getSimpleName());
        }
        return line.toString();
    }

    private static void checkInsideNames(Check check) {
        TreeSet<String> face = new TreeSet<>();
        for (String line : FACE) {
            face.add(line.substring(line.indexOf(' ') + 1, line.indexOf('(')));
        }
        List<Class<?>> classes = new ArrayList<>(List.of(BriefBuilder.class));
        classes.addAll(List.of(BriefBuilder.class.getDeclaredClasses()));
        check.due("at most twelve classes", classes.size() <= 12 ? 1 : 0, 1);
        for (Class<?> type : classes) {
            int fields = 0;
            for (Field field : type.getDeclaredFields()) {
                fields += Modifier.isStatic(field.getModifiers()) ? 0 : 1;
            }
            check.due("at most twenty fields in " + type.getName(), fields <= 20 ? 1 : 0, 1);
            for (Method method : type.getDeclaredMethods()) {
                boolean ofFace = type == BriefBuilder.class && Modifier.isPublic(method.getModifiers());
                check.due(type.getName() + "." + method.getName() + " bears a name of the face",
                        !ofFace && face.contains(method.getName()) ? 1 : 0, 0);
                check.due("at most seven parameters of " + method.getName(),
                        method.getParameterCount() <= 7 ? 1 : 0, 1);
            }
        }
    }

    private static void checkSource(Check check) throws IOException {
        String source = Files.readString(Path.of("src/main/java/BriefBuilder.java"), StandardCharsets.UTF_8);
        check.due("signs of the source are ASCII", source.chars().allMatch(c -> c < 128) ? 1 : 0, 1);
        String[] forbidden = {"import ", "package ", "->", "::", "catch", "finally", "synchronized", "assert",
            "while (true", "for (;;", "java.", "Math.random", "System.out", "System.nano", "Double.", "hashCode",
            "toString", "Thread"};
        String code = source.replaceAll("(?s)/\\*.*?\\*/", "").replaceAll("//[^\n]*", "");
        for (String word : forbidden) {
            check.due("the source holds '" + word + "'", code.contains(word) ? 1 : 0, 0);
        }
    }
}
