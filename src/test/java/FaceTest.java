import java.lang.reflect.Constructor;
import java.lang.reflect.Field;
import java.lang.reflect.Method;
import java.lang.reflect.Modifier;
import java.util.Set;
import java.util.TreeSet;

/** The public face is the document's, and nothing of the class beside it can be seen. */
public final class FaceTest {
    private static final Set<String> FACE = new TreeSet<>(Set.of(
            "public static final int NONE",
            "public static final long UNTOLD",
            "public TaleSums()",
            "public int feed(int,int,int,int,int)",
            "public boolean end(int)",
            "public int fault()",
            "public boolean tale()",
            "public int sentences()",
            "public int sentence(int,int) throws java.util.NoSuchElementException",
            "public int question(int)",
            "public int quarrel()",
            "public long answer(int)",
            "public long amount(int,int,int,int)",
            "public int idle()",
            "public int enough()",
            "public int lacking()",
            "public int strange(int)",
            "public boolean put(int,int)",
            "public int undo()",
            "public int count(int)"));

    public static void main(String[] args) {
        Set<String> seen = new TreeSet<>();
        for (Field field : TaleSums.class.getDeclaredFields()) {
            see(seen, field.getModifiers(), field.toGenericString());
        }
        for (Constructor<?> constructor : TaleSums.class.getDeclaredConstructors()) {
            see(seen, constructor.getModifiers(), constructor.toGenericString());
        }
        for (Method method : TaleSums.class.getDeclaredMethods()) {
            see(seen, method.getModifiers(), method.toGenericString());
        }
        if (!seen.equals(FACE)) {
            System.out.println("the face is " + seen + ", due is " + FACE);
        }
        Check.due("the face is the document's", seen.equals(FACE), true);
        Check.due("public and final", TaleSums.class.getModifiers(), Modifier.PUBLIC | Modifier.FINAL);
        Check.due("NONE", TaleSums.NONE, -1L);
        Check.due("UNTOLD", TaleSums.UNTOLD, -1000000000000L);
        Check.finish("FaceTest");
    }

    private static void see(Set<String> seen, int modifiers, String text) {
        if (!Modifier.isPrivate(modifiers)) {
            seen.add(text.replace("TaleSums.", ""));
        }
    }
}
