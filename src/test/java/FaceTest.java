import java.lang.reflect.Constructor;
import java.lang.reflect.Field;
import java.lang.reflect.Method;
import java.lang.reflect.Modifier;
import java.util.Set;
import java.util.TreeSet;

/** The public face, and the rules of LANGUAGE.md about members that can be seen from outside. */
public final class FaceTest {
    private static final String[] FACE = {
        "put 2", "lift 1", "play 2", "turn 0", "mirror 0", "thrift 0", "at 1", "attackers 1",
        "attackersAgain 1", "manOf 2", "move 1", "escapes 0", "isFit 0", "key 1", "kind 2",
        "refutation 2", "many 1", "duals 0", "would 2", "ranked 1", "show 0", "tell 2", "sign 1",
        "append 1", "read 0", "refusal 1", "account 1", "isWell 0", "share 0", "undo 0", "save 0",
        "restore 0"
    };

    public static void main(String[] args) {
        CheckKit check = new CheckKit();
        check.due("NONE", MateKeys.NONE, -1);
        check.due("BAD", MateKeys.BAD, -2);
        check.due("REFUSED", MateKeys.REFUSED, -3);
        check.due("NOTHING", MateKeys.NOTHING, -4);
        checkMethods(check);
        checkFields(check, MateKeys.class, 4);
        for (Constructor<?> constructor : MateKeys.class.getDeclaredConstructors()) {
            check.due("constructor's parameters", constructor.getParameterCount(), 0);
            check.due("constructor is public", Modifier.isPublic(constructor.getModifiers()) ? 1 : 0, 1);
        }
        check.due("class is final", Modifier.isFinal(MateKeys.class.getModifiers()) ? 1 : 0, 1);
        check.due("at most twelve classes", MateKeys.class.getDeclaredClasses().length < 12 ? 1 : 0, 1);
        for (Class<?> inside : MateKeys.class.getDeclaredClasses()) {
            check.due(inside + " is public", Modifier.isPublic(inside.getModifiers()) ? 1 : 0, 0);
            check.due(inside + " is static", Modifier.isStatic(inside.getModifiers()) ? 1 : 0, 1);
            checkFields(check, inside, 0);
        }
        check.finish();
    }

    private static void checkMethods(CheckKit check) {
        Set<String> due = new TreeSet<>(Set.of(FACE));
        Set<String> found = new TreeSet<>();
        Set<String> names = new TreeSet<>();
        for (Method method : MateKeys.class.getDeclaredMethods()) {
            if (Modifier.isPublic(method.getModifiers())) {
                found.add(method.getName() + " " + method.getParameterCount());
                names.add(method.getName());
                check.due(method + " returns an int", method.getReturnType() == int.class ? 1 : 0, 1);
            } else {
                check.due(method + " is private", Modifier.isPrivate(method.getModifiers()) ? 1 : 0, 1);
            }
        }
        check.due("the public methods", found.toString(), due.toString());
        for (Method method : MateKeys.class.getDeclaredMethods()) {
            boolean hidden = !Modifier.isPublic(method.getModifiers());
            check.due(method + " bears a public name", hidden && names.contains(method.getName()) ? 1 : 0, 0);
        }
    }

    private static void checkFields(CheckKit check, Class<?> owner, int publicOnes) {
        int seen = 0;
        int ownFields = 0;
        for (Field field : owner.getDeclaredFields()) {
            int modifiers = field.getModifiers();
            if (Modifier.isPublic(modifiers)) {
                seen++;
            } else if (owner == MateKeys.class) {
                check.due(field + " is private", Modifier.isPrivate(modifiers) ? 1 : 0, 1);
            }
            if (Modifier.isStatic(modifiers)) {
                check.due(field + " is final", Modifier.isFinal(modifiers) ? 1 : 0, 1);
            } else {
                ownFields++;
            }
        }
        check.due(owner + ": public fields", seen, publicOnes);
        check.due(owner + ": at most twenty fields", ownFields <= 20 ? 1 : 0, 1);
    }
}
