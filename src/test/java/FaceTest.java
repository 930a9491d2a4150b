import java.lang.reflect.Constructor;
import java.lang.reflect.Field;
import java.lang.reflect.Method;
import java.lang.reflect.Modifier;
import java.util.Set;
import java.util.TreeSet;

/** Promise 1: a new object; and the public face, with nothing beside it. */
public final class FaceTest {
    private static final Set<String> FACE = Set.of(
            "public void CheckRules2.sign(int)",
            "public int CheckRules2.rule()",
            "public int CheckRules2.field(int,int,int)",
            "public int CheckRules2.subfield(int,int,int)",
            "public int CheckRules2.run(int) throws java.lang.ArithmeticException",
            "public int CheckRules2.broken(int,int)",
            "public int CheckRules2.warning(int,int)",
            "public boolean CheckRules2.throwsUp(int,boolean)",
            "public int CheckRules2.except(int,int,long)",
            "public int CheckRules2.never(int)",
            "public int CheckRules2.message(int,int)");

    public static void main(String[] args) {
        Checks checks = new Checks("FaceTest");
        newObject(checks);
        objectsAreApart(checks);
        face(checks);
        checks.end();
    }

    private static void newObject(Checks checks) {
        CheckRules2 x = new CheckRules2();
        checks.due("NONE", CheckRules2.NONE, -1);
        checks.due("new: never(0)", x.never(0), -1);
        checks.due("new: broken(0, 0)", x.broken(0, 0), -1);
        checks.due("new: broken(0, 2)", x.broken(0, 2), -1);
        checks.due("new: message(0, 0)", x.message(0, 0), -1);
        checks.due("new: warning(0, 0)", x.warning(0, 0), -1);
        checks.due("new: throwsUp(0, true)", x.throwsUp(0, true), false);
        checks.due("new: throwsUp(0, true) again", x.throwsUp(0, true), false);
        checks.due("new: except(0, 0, 9)", x.except(0, 0, 9), -1);
        checks.due("new: subfield(1, 'a', 1)", x.subfield(1, 'a', 1), 0);
        checks.dueRun("new: run(0)", x, 0, 0);
        checks.due("new: rule() of nothing", x.rule(), -1);
        checks.due("new: first rule", Checks.tell(x, "hard tag 1 must"), 0);
        checks.due("new: first field", x.field(19, 1, 1), 1);
        checks.due("new: no run", Checks.with("hard tag 1 must").except(0, 0, 5), 5);
    }

    private static void objectsAreApart(Checks checks) {
        CheckRules2 one = Checks.with("hard tag 1 must");
        CheckRules2 other = new CheckRules2();
        checks.dueRun("one: run(0)", one, 0, 1);
        checks.dueRun("other: run(0)", other, 0, 0);
        checks.due("one: broken(0, 0)", one.broken(0, 0), 0);
        checks.due("other: field(0, 1, 1)", other.field(0, 1, 1), 1);
        checks.dueRun("one: run(0) again", one, 0, 1);
    }

    private static void face(Checks checks) {
        Class<?> face = CheckRules2.class;
        checks.due("the class is public", Modifier.isPublic(face.getModifiers()), true);
        checks.due("the class is final", Modifier.isFinal(face.getModifiers()), true);
        Set<String> seen = new TreeSet<>();
        for (Method method : face.getDeclaredMethods()) {
            if (!Modifier.isPrivate(method.getModifiers()) && !method.isSynthetic()) {
                seen.add(method.toGenericString());
            }
        }
        checks.due("the methods are those of the face: " + seen, seen.equals(FACE), true);
        for (Field field : face.getDeclaredFields()) {
            boolean isNone = field.getName().equals("NONE");
            checks.due(field + " is private", Modifier.isPrivate(field.getModifiers()), !isNone);
        }
        Constructor<?>[] made = face.getDeclaredConstructors();
        checks.due("constructors", made.length, 1);
        checks.due("the constructor's parameters", made[0].getParameterCount(), 0);
    }
}
