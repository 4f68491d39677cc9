import java.lang.reflect.Constructor;
import java.lang.reflect.Field;
import java.lang.reflect.Method;
import java.lang.reflect.Modifier;
import java.util.Arrays;
import java.util.Set;
import java.util.TreeSet;

/** The document's public face, and nothing beside it. */
public final class FaceTest {
    private static final String[] FACE = {
        "boolean refer(int,int)", "boolean enter(int)", "int concept(int,int,int,int)",
        "boolean setting(int,int,boolean)", "int arc(int,int,int,int,int)",
        "int context(int,int,int,int)", "int unit(int,int,int)", "boolean write(char)",
        "int fact(int,int,int,int,int)", "boolean discovered(int)", "boolean left(int)",
        "boolean sameContext(int,int)", "boolean sameUnit(int,int)", "long value(int)",
        "int places(int)", "long rounded(int)", "long sum(int,int)", "int problems()",
        "int problem(int)"
    };
    private static final Check CHECK = new Check("FaceTest");

    public static void main(String[] args) {
        Class<?> face = FactBinder.class;
        CHECK.yes("public", Modifier.isPublic(face.getModifiers()));
        CHECK.yes("final", Modifier.isFinal(face.getModifiers()));
        CHECK.no("no package", face.getName().contains("."));
        onlyTheFaceIsVisible(face);
        constructorIsPublic(face);
        fieldsArePrivate(face);
        for (Class<?> inside : face.getDeclaredClasses()) {
            CHECK.yes(inside + " is static", Modifier.isStatic(inside.getModifiers()));
            CHECK.no(inside + " is public", Modifier.isPublic(inside.getModifiers()));
            noMethodBearsNameOfFace(inside);
        }
        CHECK.finish();
    }

    static String told(Method method) {
        StringBuilder text = new StringBuilder(method.getReturnType() + " " + method.getName() + "(");
        for (Class<?> parameter : method.getParameterTypes()) {
            text.append(text.charAt(text.length() - 1) == '(' ? "" : ",").append(parameter);
        }
        return text.append(")").toString();
    }

    private static void onlyTheFaceIsVisible(Class<?> face) {
        Set<String> visible = new TreeSet<>();
        for (Method method : face.getDeclaredMethods()) {
            if (!Modifier.isPrivate(method.getModifiers())) {
                visible.add(told(method));
                CHECK.yes(method + " is public", Modifier.isPublic(method.getModifiers()));
                CHECK.no(method + " is static", Modifier.isStatic(method.getModifiers()));
            }
        }
        Set<String> want = new TreeSet<>(Arrays.asList(FACE));
        CHECK.yes("the face is " + visible, visible.equals(want));
    }

    private static void constructorIsPublic(Class<?> face) {
        Constructor<?>[] all = face.getDeclaredConstructors();
        CHECK.due("constructors", 1, all.length);
        CHECK.due("its parameters", 0, all[0].getParameterCount());
        CHECK.yes("it is public", Modifier.isPublic(all[0].getModifiers()));
    }

    private static void fieldsArePrivate(Class<?> face) {
        for (Field field : face.getDeclaredFields()) {
            CHECK.yes(field + " is private", Modifier.isPrivate(field.getModifiers()));
        }
    }

    private static void noMethodBearsNameOfFace(Class<?> inside) {
        for (Method method : inside.getDeclaredMethods()) {
            for (String member : FACE) {
                CHECK.no(method + " bears a name of the face", member.contains(" " + method.getName() + "("));
            }
        }
    }
}
