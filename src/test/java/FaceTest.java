import java.lang.reflect.Constructor;
import java.lang.reflect.Field;
import java.lang.reflect.Method;
import java.lang.reflect.Modifier;
import java.util.Set;
import java.util.TreeSet;

/** The class has the document's face, and no other member that can be seen from outside. */
final class FaceTest {
    public static void main(String[] args) {
        Set<String> due = new TreeSet<>(Set.of(
            "public static final int ChannelMachine.ENDED",
            "public static final int ChannelMachine.MORE",
            "public static final int ChannelMachine.HOST",
            "public ChannelMachine()",
            "public int ChannelMachine.type(long)"
                + " throws java.lang.IllegalArgumentException,java.lang.IllegalStateException",
            "public int ChannelMachine.load() throws java.lang.IllegalArgumentException",
            "public int ChannelMachine.run(int) throws java.lang.IllegalArgumentException,"
                + "java.lang.IllegalStateException,java.lang.ArithmeticException",
            "public int ChannelMachine.give(int) throws java.lang.IllegalStateException",
            "public int ChannelMachine.take() throws java.util.NoSuchElementException",
            "public int ChannelMachine.variable(int) throws java.lang.IllegalArgumentException",
            "public void ChannelMachine.set(int,int) throws java.lang.IllegalArgumentException",
            "public int ChannelMachine.channel(int) throws java.lang.IllegalArgumentException",
            "public int ChannelMachine.count(int)"));
        Set<String> seen = seenFromOutside();
        for (String member : due) {
            if (!seen.contains(member)) {
                Check.report("missing: " + member);
            }
        }
        for (String member : seen) {
            if (!due.contains(member)) {
                Check.report("not in the document: " + member);
            }
        }
        if (!Modifier.isFinal(ChannelMachine.class.getModifiers())) {
            Check.report("the class is not final");
        }
        Check.finish();
    }

    private static Set<String> seenFromOutside() {
        Set<String> seen = new TreeSet<>();
        for (Field field : ChannelMachine.class.getDeclaredFields()) {
            add(seen, field.getModifiers(), field.isSynthetic(), field.toString());
        }
        for (Constructor<?> constructor : ChannelMachine.class.getDeclaredConstructors()) {
            add(seen, constructor.getModifiers(), constructor.isSynthetic(), constructor.toString());
        }
        for (Method method : ChannelMachine.class.getDeclaredMethods()) {
            add(seen, method.getModifiers(), method.isSynthetic(), method.toString());
        }
        return seen;
    }

    private static void add(Set<String> seen, int modifiers, boolean synthetic, String member) {
        if (!Modifier.isPrivate(modifiers) && !synthetic) {
            seen.add(member);
        }
    }
}
