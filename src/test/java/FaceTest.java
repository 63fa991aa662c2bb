import java.lang.reflect.Member;
import java.lang.reflect.Method;
import java.lang.reflect.Modifier;
import java.util.Arrays;
import java.util.Set;
import java.util.TreeSet;

/** The public face: the document's members and no other that isn't private. */
public final class FaceTest {
    private static final Set<String> FACE = Set.of(
        "group(int,int,int):void", "found(int,int,int,int):void", "fault(int,int):void",
        "deal(int,int,int,int):void", "look(int):int", "answer(int,int):boolean", "close():int",
        "wipe(int):void", "recover(int):int", "share(int):int", "fits(int):boolean", "sum(int):int",
        "element(int):int", "reconstruct(int):int", "post(int,int):int", "about(int):int");

    private static int wrong;

    public static void main(String[] args) {
        Class<KeyCustody> type = KeyCustody.class;
        expect("the class is public and final", (type.getModifiers() & Modifier.PUBLIC) != 0
            && Modifier.isFinal(type.getModifiers()));
        Set<String> visible = new TreeSet<>();
        Set<String> publicNames = new TreeSet<>();
        Set<String> privateNames = new TreeSet<>();
        for (Method method : type.getDeclaredMethods()) {
            if (isHidden(method)) {
                privateNames.add(method.getName());
            } else {
                visible.add(signature(method));
                publicNames.add(method.getName());
                expect(method.getName() + " is public", Modifier.isPublic(method.getModifiers()));
            }
        }
        expect("the methods are the document's: " + visible, visible.equals(FACE));
        privateNames.retainAll(publicNames);
        expect("no private method has a public one's name: " + privateNames, privateNames.isEmpty());
        long fields = Arrays.stream(type.getDeclaredFields()).filter(field -> !isHidden(field)).count();
        expect("NONE is the only visible field", fields == 1);
        expect("there is one constructor", type.getDeclaredConstructors().length == 1);
        System.out.println(wrong == 0 ? "the face is as due" : wrong + " things are not as due");
        if (wrong != 0) {
            System.exit(1);
        }
    }

    private static boolean isHidden(Member member) {
        return Modifier.isPrivate(member.getModifiers()) || member.isSynthetic();
    }

    private static String signature(Method method) {
        StringBuilder text = new StringBuilder(method.getName()).append('(');
        for (Class<?> parameter : method.getParameterTypes()) {
            text.append(text.charAt(text.length() - 1) == '(' ? "" : ",").append(parameter.getName());
        }
        return text.append("):").append(method.getReturnType().getName()).toString();
    }

    private static void expect(String what, boolean holds) {
        if (!holds) {
            wrong++;
            System.out.println("not so: " + what);
        }
    }
}
