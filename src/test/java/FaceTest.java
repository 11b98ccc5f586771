import java.lang.reflect.Constructor;
import java.lang.reflect.Field;
import java.lang.reflect.Method;
import java.lang.reflect.Modifier;
import java.util.Set;
import java.util.TreeSet;

/** The public face: the document's constants, constructor and methods, and no other member. */
final class FaceTest {
    private static final String[] FACE = {
        "public int put(int,int) throws IndexOutOfBoundsException,IllegalStateException",
        "public int wipe()",
        "public int pair() throws IllegalStateException",
        "public int takeBack(int) throws IndexOutOfBoundsException",
        "public int begin()",
        "public int round()",
        "public int weight(int,int) throws IndexOutOfBoundsException,IllegalArgumentException",
        "public int pairs()",
        "public int word(int,int,int) throws IndexOutOfBoundsException",
        "public int share(int,int,int) throws IndexOutOfBoundsException",
        "public int link(int,int,int) throws IndexOutOfBoundsException",
        "public boolean isJoined(int,int,int) throws IndexOutOfBoundsException",
        "public int phrases(int) throws IndexOutOfBoundsException",
        "public int phrase(int,int,int) throws IndexOutOfBoundsException,IllegalArgumentException",
        "public int fertility(int,int) throws IndexOutOfBoundsException,IllegalArgumentException",
        "public long total(int) throws IndexOutOfBoundsException,IllegalStateException",
        "public long totalAnew(int) throws IndexOutOfBoundsException,IllegalStateException",
    };

    public static void main(String[] args) {
        Check.equal("NONE", Glosspair.NONE, -1);
        Check.equal("EMPTY", Glosspair.EMPTY, 15);
        Check.isTrue("the class is public and final",
                Glosspair.class.getModifiers() == (Modifier.PUBLIC | Modifier.FINAL));
        methodsAreTheFace();
        fieldsAreTheFace();
        classesInsideArePlain();
        Check.end();
    }

    private static void methodsAreTheFace() {
        Set<String> due = new TreeSet<>(Set.of(FACE));
        Set<String> names = new TreeSet<>();
        for (String one : FACE) {
            names.add(one.substring(one.lastIndexOf(' ', one.indexOf('(')) + 1, one.indexOf('(')));
        }
        for (Method method : Glosspair.class.getDeclaredMethods()) {
            if (Modifier.isPrivate(method.getModifiers())) {
                Check.isTrue(method + " bears no name of the face", !names.contains(method.getName()));
            } else {
                String text = method.toGenericString().replace("Glosspair.", "").replace("java.lang.", "");
                Check.isTrue(text + " is in the face", due.remove(text.replace(", ", ",")));
            }
        }
        Check.isTrue("missing in the face: " + due, due.isEmpty());
        Constructor<?>[] constructors = Glosspair.class.getDeclaredConstructors();
        Check.equal("constructors", constructors.length, 1);
        Check.isTrue("the constructor is public and takes nothing",
                Modifier.isPublic(constructors[0].getModifiers()) && constructors[0].getParameterCount() == 0);
    }

    private static void fieldsAreTheFace() {
        for (Field field : Glosspair.class.getDeclaredFields()) {
            boolean isConstant = field.getName().equals("NONE") || field.getName().equals("EMPTY");
            Check.isTrue(field + " is private, or of the face",
                    isConstant == Modifier.isPublic(field.getModifiers())
                            && isConstant != Modifier.isPrivate(field.getModifiers()));
            Check.isTrue(field + ", if static, is final",
                    !Modifier.isStatic(field.getModifiers()) || Modifier.isFinal(field.getModifiers()));
        }
    }

    private static void classesInsideArePlain() {
        Check.isTrue("at most 12 classes", Glosspair.class.getDeclaredClasses().length < 12);
        for (Class<?> inside : Glosspair.class.getDeclaredClasses()) {
            int modifiers = inside.getModifiers();
            Check.isTrue(inside + " is static, and not public or protected",
                    Modifier.isStatic(modifiers) && !Modifier.isPublic(modifiers) && !Modifier.isProtected(modifiers));
        }
    }
}
