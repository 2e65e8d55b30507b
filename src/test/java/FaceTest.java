import java.lang.reflect.Constructor;
import java.lang.reflect.Field;
import java.lang.reflect.Method;
import java.lang.reflect.Modifier;
import java.util.Arrays;
import java.util.Set;
import java.util.TreeSet;

/** The public face is the document's, with nothing more that another class could see. */
public final class FaceTest {
    private static final Set<String> FACE = new TreeSet<>(Arrays.asList(
        "public static final int QuorumCouncil.NONE",
        "public QuorumCouncil(int,int)",
        "public void QuorumCouncil.members(int,int,int) throws java.lang.IllegalArgumentException",
        "public void QuorumCouncil.change(int,int) throws java.lang.IllegalArgumentException,java.lang.IllegalStateException",
        "public boolean QuorumCouncil.settle() throws java.lang.IllegalStateException",
        "public boolean QuorumCouncil.majority(int) throws java.lang.IllegalArgumentException",
        "public void QuorumCouncil.ballot()",
        "public boolean QuorumCouncil.vote(int) throws java.lang.IndexOutOfBoundsException",
        "public void QuorumCouncil.lead(int,int) throws java.lang.IllegalArgumentException",
        "public int QuorumCouncil.round()",
        "public int QuorumCouncil.sending(int,int,int,boolean) throws java.lang.IndexOutOfBoundsException,java.lang.IllegalArgumentException",
        "public int QuorumCouncil.matched(int,int,int,int) throws java.lang.IndexOutOfBoundsException,java.lang.IllegalArgumentException",
        "public int QuorumCouncil.refused(int,int,int,int,int) throws java.lang.IndexOutOfBoundsException,java.lang.IllegalArgumentException",
        "public boolean QuorumCouncil.stored(int,int,int,int,int,int) throws java.lang.IndexOutOfBoundsException,java.lang.IllegalArgumentException",
        "public void QuorumCouncil.own(int,int) throws java.lang.IllegalArgumentException",
        "public int QuorumCouncil.agreed(int) throws java.lang.IllegalArgumentException",
        "public int QuorumCouncil.server(int,int) throws java.lang.IndexOutOfBoundsException",
        "public int QuorumCouncil.council(int)"));

    public static void main(String[] args) {
        Check check = new Check();
        Set<String> seen = new TreeSet<>();
        Set<String> open = new TreeSet<>();
        Set<String> closed = new TreeSet<>();
        for (Field field : QuorumCouncil.class.getDeclaredFields()) {
            if (!Modifier.isPrivate(field.getModifiers())) {
                seen.add(field.toGenericString());
            }
            if (Modifier.isStatic(field.getModifiers()) && !Modifier.isFinal(field.getModifiers())) {
                check.tell(field + " is static state");
            }
        }
        for (Constructor<?> constructor : QuorumCouncil.class.getDeclaredConstructors()) {
            if (!Modifier.isPrivate(constructor.getModifiers())) {
                seen.add(constructor.toGenericString());
            }
        }
        for (Method method : QuorumCouncil.class.getDeclaredMethods()) {
            boolean hidden = Modifier.isPrivate(method.getModifiers());
            (hidden ? closed : open).add(method.getName());
            if (!hidden) {
                seen.add(method.toGenericString());
            }
        }
        closed.retainAll(open);
        check.due("private methods named as public ones", closed.toString(), "[]");
        check.due("the face", String.join("\n", seen), String.join("\n", FACE));
        check.due("public and final", Modifier.toString(QuorumCouncil.class.getModifiers()), "public final");
        check.due("NONE", QuorumCouncil.NONE, -1);
        check.end();
    }
}
