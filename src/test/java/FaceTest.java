import java.lang.reflect.Constructor;
import java.lang.reflect.Field;
import java.lang.reflect.Member;
import java.lang.reflect.Method;
import java.lang.reflect.Modifier;
import java.util.TreeSet;

/** The public face as the document has it, and no other member that is not private. */
public final class FaceTest {
    private static final String[] FACE = {
        "public BridgeCells(int,int)",
        "public boolean BridgeCells.mirrored(int) throws java.lang.IllegalArgumentException",
        "public int BridgeCells.box(int,int,int,int,int) throws java.lang.IllegalArgumentException",
        "public int BridgeCells.colder(int) throws java.lang.IllegalArgumentException",
        "public int BridgeCells.factor(int,int) throws java.lang.IllegalArgumentException",
        "public int BridgeCells.joint() throws java.lang.IllegalStateException",
        "public int BridgeCells.leads(int,int) throws java.lang.IllegalArgumentException",
        "public int BridgeCells.least(int,int) throws java.lang.IllegalArgumentException",
        "public int BridgeCells.length(int,int) throws java.lang.IllegalArgumentException",
        "public int BridgeCells.side(int,int,int) throws java.lang.IllegalArgumentException",
        "public int BridgeCells.warmth(int,int) throws java.lang.IllegalArgumentException",
        "public long BridgeCells.differs(int) throws java.lang.IllegalArgumentException",
        "public long BridgeCells.flow(int) throws java.lang.IllegalArgumentException",
        "public long BridgeCells.sum()",
        "public long BridgeCells.told(int) throws java.lang.IllegalArgumentException",
        "public static final int BridgeCells.NOTHING",
    };

    public static void main(String[] args) {
        Check.due("NOTHING", BridgeCells.NOTHING, -1000000);
        int kind = BridgeCells.class.getModifiers();
        Check.due("the class is public", Modifier.isPublic(kind), true);
        Check.due("the class is final", Modifier.isFinal(kind), true);
        Check.due("the face", seen().toString(), new TreeSet<>(java.util.List.of(FACE)).toString());
        for (Method method : BridgeCells.class.getDeclaredMethods()) {
            boolean clashes = Modifier.isPrivate(method.getModifiers()) && isOfTheFace(method.getName());
            Check.due("the private method " + method.getName() + " is named like a public one",
                    clashes, false);
        }
        Check.end();
    }

    private static TreeSet<String> seen() {
        TreeSet<String> seen = new TreeSet<>();
        for (Constructor<?> member : BridgeCells.class.getDeclaredConstructors()) {
            keep(seen, member, member.toString());
        }
        for (Method member : BridgeCells.class.getDeclaredMethods()) {
            keep(seen, member, member.toString());
        }
        for (Field member : BridgeCells.class.getDeclaredFields()) {
            keep(seen, member, member.toString());
        }
        return seen;
    }

    private static void keep(TreeSet<String> seen, Member member, String text) {
        if (!Modifier.isPrivate(member.getModifiers())) {
            seen.add(text);
        }
    }

    private static boolean isOfTheFace(String name) {
        for (String line : FACE) {
            if (line.contains("." + name + "(")) {
                return true;
            }
        }
        return false;
    }
}
