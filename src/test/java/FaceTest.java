import java.lang.reflect.Constructor;
import java.lang.reflect.Field;
import java.lang.reflect.Method;
import java.lang.reflect.Modifier;
import java.util.Set;
import java.util.TreeSet;

/** The class shows the document's face and nothing else. */
public final class FaceTest {
    public static void main(String[] args) {
        Set<String> shown = new TreeSet<>();
        for (Constructor<?> c : TenMachine.class.getDeclaredConstructors()) {
            add(shown, c.getModifiers(), c.toString());
        }
        for (Method m : TenMachine.class.getDeclaredMethods()) {
            add(shown, m.getModifiers(), m.toString());
        }
        for (Field f : TenMachine.class.getDeclaredFields()) {
            add(shown, f.getModifiers(), f.toString());
        }
        Set<String> want = new TreeSet<>(Set.of(
                "public static final int TenMachine.REFUSED",
                "public TenMachine()",
                "public int TenMachine.put(int,long)",
                "public long TenMachine.get(int)",
                "public int TenMachine.go(int,int,boolean)",
                "public int TenMachine.look(int)"));
        if (!shown.equals(want)) {
            System.out.println("the face is " + shown + ", due is " + want);
        }
        Bench.due("the face is as the document's", shown.equals(want) ? 1 : 0, 1);
        Bench.due("the class is final", Modifier.isFinal(TenMachine.class.getModifiers()) ? 1 : 0, 1);
        Bench.due("REFUSED", TenMachine.REFUSED, -1);
        Bench.finish();
    }

    private static void add(Set<String> shown, int modifiers, String member) {
        if (!Modifier.isPrivate(modifiers)) {
            shown.add(member);
        }
    }
}
