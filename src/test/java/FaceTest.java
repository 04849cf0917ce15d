import java.io.IOException;
import java.lang.reflect.Constructor;
import java.lang.reflect.Field;
import java.lang.reflect.Member;
import java.lang.reflect.Method;
import java.lang.reflect.Modifier;
import java.nio.file.Files;
import java.nio.file.Path;
import java.util.ArrayList;
import java.util.Arrays;
import java.util.List;
import java.util.TreeSet;

/** The class has the document's face, and no other member that is seen from outside. */
public final class FaceTest {
    private static final String[] FACE = {
        "public int points(int)", "public int weight(int,int)", "public int kind(int,int)",
        "public int line(int,int,int)", "public int joined(int,int)", "public int of(int,int)",
        "public int partition(int,int,int)", "public long part(int,int)", "public long colorings(int)",
        "public int sinks(int)", "public int peeled(int)", "public int keep(int,int)", "public int lay(int)",
        "public int like(int)", "public int same(int)", "public int weightOf(int)",
        "public long partOf(int,int,int)", "public int plus(int,int,int,int)", "public int multiply(int,int,int)",
        "public int row(int,int)", "public int put(int,int,long)", "public long get(int,int)",
        "public int film(int)", "public int fits(int,int,int)", "public int judge(int)", "public int back()",
        "public int feed(int)", "public int wipe()", "public int read()", "public long why(int,int)",
        "public int act(int,int,int)", "public int trace(int)", "public int taken(int,int)",
        "public int image()", "public int undo()", "public int count(int)",
        "public ColorFunctions()",
        "public static final int BAD", "public static final int NOT", "public static final int FULL",
        "public static final int STATE", "public static final long VOID"};

    public static void main(String[] args) throws IOException {
        TreeSet<String> seen = new TreeSet<>();
        TreeSet<String> names = new TreeSet<>();
        for (Method method : ColorFunctions.class.getDeclaredMethods()) {
            if (isSeen(method)) {
                names.add(method.getName());
                seen.add(told(method.toString()));
            }
        }
        for (Constructor<?> constructor : ColorFunctions.class.getDeclaredConstructors()) {
            if (isSeen(constructor)) {
                seen.add(told(constructor.toString()));
            }
        }
        for (Field field : ColorFunctions.class.getDeclaredFields()) {
            if (isSeen(field)) {
                seen.add(told(field.toString()));
            }
        }
        List<String> wrong = new ArrayList<>();
        for (String member : FACE) {
            if (!seen.remove(member)) {
                wrong.add("missing: " + member);
            }
        }
        for (String member : seen) {
            wrong.add("too much: " + member);
        }
        namesInside(names, wrong);
        namesInReadme(names, wrong);
        for (String line : wrong) {
            System.out.println(line);
        }
        System.out.println(wrong.isEmpty() ? "the face is as due" : wrong.size() + " members are not as due");
        if (!wrong.isEmpty()) {
            System.exit(1);
        }
    }

    private static boolean isSeen(Member member) {
        return !Modifier.isPrivate(member.getModifiers()) && !member.isSynthetic();
    }

    private static String told(String member) {
        return member.replace("ColorFunctions.", "");
    }

    /** README.md tells how to use the class: it names each call (.ci/run starts the tests beside it). */
    private static void namesInReadme(TreeSet<String> names, List<String> wrong) throws IOException {
        String readme = Files.readString(Path.of("README.md"));
        for (String name : names) {
            if (!readme.contains("`" + name + "(")) {
                wrong.add("not in README.md: " + name);
            }
        }
    }

    /** No method that is not of the face, in classes inside either, bears a name of the face. */
    private static void namesInside(TreeSet<String> names, List<String> wrong) {
        List<Class<?>> classes = new ArrayList<>(Arrays.asList(ColorFunctions.class.getDeclaredClasses()));
        for (Class<?> inside : classes) {
            for (Method method : inside.getDeclaredMethods()) {
                if (names.contains(method.getName())) {
                    wrong.add("a name of the face: " + method);
                }
            }
        }
        for (Method method : ColorFunctions.class.getDeclaredMethods()) {
            if (!isSeen(method) && names.contains(method.getName())) {
                wrong.add("a name of the face: " + method);
            }
        }
        if (!Modifier.isFinal(ColorFunctions.class.getModifiers())) {
            wrong.add("the class is not final");
        }
    }
}
