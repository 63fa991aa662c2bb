import java.lang.reflect.Field;
import java.lang.reflect.Member;
import java.lang.reflect.Method;
import java.lang.reflect.Modifier;
import java.util.ArrayList;
import java.util.List;
import java.util.Set;
import java.util.TreeSet;

/** The public face, and rule 1 of LANGUAGE.md: the document's members and no other that isn't private. */
public final class FaceTest {
    private static final String STATE = "IllegalStateException";
    private static final String SEAT = "NoSuchElementException";
    private static final String WRONG = "IllegalArgumentException";
    private static final String OUTSIDE = "IndexOutOfBoundsException";
    private static final String NOT_NOW = "UnsupportedOperationException";

    private static final Set<String> FACE = Set.of(
        face("void group(int, int, int)", WRONG),
        face("void found(int, int, int, int)", STATE, WRONG),
        face("void fault(int, int)", STATE, SEAT, WRONG, NOT_NOW),
        face("void deal(int, int, int, int)", STATE, SEAT, WRONG, NOT_NOW),
        face("int look(int)", STATE, SEAT, NOT_NOW),
        face("boolean answer(int, int)", STATE, SEAT, WRONG, NOT_NOW),
        face("int close()", STATE),
        face("void wipe(int)", STATE, SEAT, NOT_NOW),
        face("int recover(int)", STATE, SEAT, NOT_NOW),
        face("int share(int)", STATE, SEAT),
        face("boolean fits(int)", STATE, SEAT),
        face("int sum(int)", STATE, OUTSIDE),
        face("int element(int)", STATE, SEAT),
        face("int reconstruct(int)", STATE, WRONG),
        face("int post(int, int)", STATE, OUTSIDE, WRONG),
        face("int about(int)", WRONG));

    private static final Check CHECK = new Check();

    public static void main(String[] args) {
        Class<KeyCustody> type = KeyCustody.class;
        expect("the class is public and final", isPublic(type.getModifiers()) && Modifier.isFinal(type.getModifiers()));
        theMethodsAreTheDocuments(type);
        noneIsTheOnlyVisibleField(type);
        theConstructorIsPublicAndTheOnlyOne(type);
        theClassesInsideAreStaticAndNotPublic(type);
        CHECK.end();
    }

    private static String face(String signature, String... exceptions) {
        return signature + " throws " + String.join(", ", exceptions);
    }

    private static void theMethodsAreTheDocuments(Class<?> type) {
        Set<String> visible = new TreeSet<>();
        Set<String> publicNames = new TreeSet<>();
        Set<String> privateNames = new TreeSet<>();
        for (Method method : type.getDeclaredMethods()) {
            if (isHidden(method)) {
                privateNames.add(method.getName());
            } else {
                visible.add(faceOf(method));
                publicNames.add(method.getName());
                expect(method.getName() + " is public and of the object",
                    isPublic(method.getModifiers()) && !Modifier.isStatic(method.getModifiers()));
            }
        }
        expect("the methods are the document's: " + visible, visible.equals(FACE));
        privateNames.retainAll(publicNames);
        expect("no private method has a public one's name: " + privateNames, privateNames.isEmpty());
    }

    private static String faceOf(Method method) {
        String signature = method.getReturnType() + " " + method.getName()
            + "(" + String.join(", ", names(method.getParameterTypes())) + ")";
        return face(signature, names(method.getExceptionTypes()).toArray(new String[0]));
    }

    private static List<String> names(Class<?>[] types) {
        List<String> names = new ArrayList<>();
        for (Class<?> type : types) {
            names.add(type.getSimpleName());
        }
        return names;
    }

    private static void noneIsTheOnlyVisibleField(Class<?> type) {
        List<String> visible = new ArrayList<>();
        for (Field field : type.getDeclaredFields()) {
            if (!isHidden(field)) {
                visible.add(Modifier.toString(field.getModifiers()) + " " + field.getType() + " " + field.getName());
            }
        }
        expect("NONE is the only visible field: " + visible, visible.equals(List.of("public static final int NONE")));
        expect("NONE is -1", KeyCustody.NONE == -1);
    }

    private static void theConstructorIsPublicAndTheOnlyOne(Class<?> type) {
        var made = type.getDeclaredConstructors();
        expect("there is one constructor", made.length == 1);
        expect("it is public, without parameters or exceptions", isPublic(made[0].getModifiers())
            && made[0].getParameterCount() == 0 && made[0].getExceptionTypes().length == 0);
    }

    private static void theClassesInsideAreStaticAndNotPublic(Class<?> type) {
        for (Class<?> inside : type.getDeclaredClasses()) {
            int modifiers = inside.getModifiers();
            expect(inside.getSimpleName() + " is static and neither public nor protected",
                Modifier.isStatic(modifiers) && !isPublic(modifiers) && !Modifier.isProtected(modifiers));
        }
    }

    private static boolean isPublic(int modifiers) {
        return Modifier.isPublic(modifiers);
    }

    private static boolean isHidden(Member member) {
        return Modifier.isPrivate(member.getModifiers()) || member.isSynthetic();
    }

    private static void expect(String what, boolean holds) {
        CHECK.due(what, holds, true);
    }
}
