import java.lang.reflect.Field;
import java.lang.reflect.Member;
import java.lang.reflect.Method;
import java.lang.reflect.Modifier;
import java.util.Arrays;
import java.util.TreeSet;

/** The public face, and no member that is seen beside it. */
public final class FaceTest {
    private static final String[] FACE = {
        "public static final int TwinGate.NONE",
        "public TwinGate(int)",
        "public int TwinGate.add(int,int) throws java.lang.IllegalArgumentException,java.lang.IllegalStateException",
        "public boolean TwinGate.give(int,int)",
        "public int TwinGate.cycle()",
        "public boolean TwinGate.flip(int,int,int,int)",
        "public int TwinGate.output(int)",
        "public long TwinGate.cell(int,int) throws java.lang.IndexOutOfBoundsException",
        "public int TwinGate.count(int)",
    };

    private static final Checks checks = new Checks();

    public static void main(String[] args) {
        int modifiers = TwinGate.class.getModifiers();
        checks.due("public and final", Modifier.isPublic(modifiers) && Modifier.isFinal(modifiers), true);
        checks.due("the face", seenMembers().toString(), new TreeSet<>(Arrays.asList(FACE)).toString());
        staticFieldsAreFinal();
        namesOfTheFaceAreItsOwn();
        checks.end();
    }

    private static TreeSet<String> seenMembers() {
        TreeSet<String> seen = new TreeSet<>();
        addSeen(seen, TwinGate.class.getDeclaredFields());
        addSeen(seen, TwinGate.class.getDeclaredConstructors());
        addSeen(seen, TwinGate.class.getDeclaredMethods());
        return seen;
    }

    private static void addSeen(TreeSet<String> seen, Member[] members) {
        for (Member member : members) {
            if (!Modifier.isPrivate(member.getModifiers()) && !member.isSynthetic()) {
                seen.add(member.toString());
            }
        }
    }

    private static void staticFieldsAreFinal() {
        for (Field field : TwinGate.class.getDeclaredFields()) {
            int modifiers = field.getModifiers();
            checks.due(field.getName() + " is final or no static",
                Modifier.isFinal(modifiers) || !Modifier.isStatic(modifiers), true);
        }
    }

    private static void namesOfTheFaceAreItsOwn() {
        for (Method method : TwinGate.class.getDeclaredMethods()) {
            for (Method other : TwinGate.class.getMethods()) {
                boolean clash = Modifier.isPrivate(method.getModifiers())
                    && method.getName().equals(other.getName());
                checks.due("private " + method.getName() + " bears a public name", clash, false);
            }
        }
    }
}
