import java.lang.reflect.Constructor;
import java.lang.reflect.Field;
import java.lang.reflect.Method;
import java.lang.reflect.Modifier;
import java.util.TreeSet;

/** The public face is the document's, and nothing else can be seen of the class. */
public final class FaceTest {
    private static final String[] FACE = {
        "public boolean TokenFrames.again(int,int)",
        "public boolean TokenFrames.write(long,int)",
        "public int TokenFrames.block(int)",
        "public int TokenFrames.byteAt(int)",
        "public int TokenFrames.frame(int,int,int,int,int)",
        "public int TokenFrames.place()",
        "public int TokenFrames.size()",
        "public int TokenFrames.sum()",
        "public int TokenFrames.unblock(int)",
        "public int TokenFrames.unframe(int)",
        "public void TokenFrames.clear()",
        "public void TokenFrames.remember()",
        "public void TokenFrames.turn()",
    };

    public static void main(String[] args) {
        Checks checks = new Checks("the face");
        checks.isTrue("the class is public and final",
                Modifier.isPublic(TokenFrames.class.getModifiers())
                        && Modifier.isFinal(TokenFrames.class.getModifiers()));
        checks.same("the methods", methodsInView(), new TreeSet<>(java.util.List.of(FACE)));
        checks.same("the fields in view", fieldsInView(), new TreeSet<String>());
        Constructor<?>[] constructors = TokenFrames.class.getDeclaredConstructors();
        checks.due("constructors", constructors.length, 1);
        checks.same("the constructor", constructors[0].toString(), "public TokenFrames()");
        checks.due("methods, each with a name of its own",
                TokenFrames.class.getDeclaredMethods().length, namesOfMethods().size());
        for (Class<?> inside : TokenFrames.class.getDeclaredClasses()) {
            checks.isTrue(inside + " is static and not public",
                    Modifier.isStatic(inside.getModifiers()) && !Modifier.isPublic(inside.getModifiers()));
        }
        checks.end();
    }

    private static TreeSet<String> methodsInView() {
        TreeSet<String> names = new TreeSet<>();
        for (Method method : TokenFrames.class.getDeclaredMethods()) {
            if (!Modifier.isPrivate(method.getModifiers())) {
                names.add(method.toString());
            }
        }
        return names;
    }

    private static TreeSet<String> namesOfMethods() {
        TreeSet<String> names = new TreeSet<>();
        for (Method method : TokenFrames.class.getDeclaredMethods()) {
            names.add(method.getName());
        }
        return names;
    }

    private static TreeSet<String> fieldsInView() {
        TreeSet<String> names = new TreeSet<>();
        for (Field field : TokenFrames.class.getDeclaredFields()) {
            if (!Modifier.isPrivate(field.getModifiers())) {
                names.add(field.toString());
            }
        }
        return names;
    }
}
