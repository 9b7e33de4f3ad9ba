import java.lang.reflect.Constructor;
import java.lang.reflect.Field;
import java.lang.reflect.Method;
import java.lang.reflect.Modifier;
import java.util.Arrays;
import java.util.Set;
import java.util.TreeSet;

/** The face is the document's, and nothing else of the class can be seen from outside. */
public final class FaceTest {
    private static final String[] FACE = {
        "int type(int,int)", "int wipe(int)", "int fault(int)", "int other(int)", "long saysYes(int,int,int)",
        "int unit(int)", "int pass(int)", "int group(int,int)", "int answer(int,int,int)", "int read(int,int)",
        "int takeBack(int)", "int about(int,int)", "int asOf(int)", "int poll(int,int,int)",
        "long share(int,int,int)", "long scatter(int,int,int)", "long ways(int,int,int)", "int likely(int,int)",
        "int span(int,int,int,int)", "int atLeast(int,int,int)", "long away(int,int,int)", "long given(int,int)",
        "long has(int,int,int)", "long exposed(int,int)", "int limit(int)", "int may(int,int)",
        "int best(int,int,int)", "long parted(int,int,int,int,int)", "int kept(int,int)", "int sheet(int,int,int)",
        "int lose(int)", "int put(int,int,int,int)", "int get(int,int,int)", "int copy(int,int,int,int,int)",
        "int write(int,int)", "int count(int)", "long digest()"
    };

    public static void main(String[] args) {
        Class<?> c = SecretLots.class;
        Check.due("public final", c.getModifiers() & (Modifier.PUBLIC | Modifier.FINAL), Modifier.PUBLIC | Modifier.FINAL);
        Set<String> seen = new TreeSet<>();
        Set<String> hidden = new TreeSet<>();
        Set<String> names = new TreeSet<>();
        for (Method m : c.getDeclaredMethods()) {
            if (Modifier.isPrivate(m.getModifiers())) {
                hidden.add(m.getName());
            } else {
                seen.add(told(m));
                names.add(m.getName());
                Check.due(m.getName() + " is public and no static", m.getModifiers(), Modifier.PUBLIC);
            }
        }
        hidden.retainAll(names);
        Check.due("private methods with a public one's name " + hidden, hidden.size(), 0);
        Set<String> due = new TreeSet<>(Arrays.asList(FACE));
        Check.due("the face is " + seen, seen.equals(due) ? 1 : 0, 1);
        int fields = 0;
        for (Field f : c.getDeclaredFields()) {
            fields += Modifier.isPrivate(f.getModifiers()) ? 0 : 1;
            boolean isMovingStatic = Modifier.isStatic(f.getModifiers()) && !Modifier.isFinal(f.getModifiers());
            Check.due(f.getName() + " is a static that is not final", isMovingStatic ? 1 : 0, 0);
        }
        Check.due("fields that can be seen", fields, 4);
        Constructor<?>[] constructors = c.getDeclaredConstructors();
        Check.due("constructors", constructors.length, 1);
        Check.due("its parameters", constructors[0].getParameterCount(), 0);
        Check.due("it is public", constructors[0].getModifiers(), Modifier.PUBLIC);
        for (Class<?> inner : c.getDeclaredClasses()) {
            Check.due(inner.getName() + " is static", Modifier.isStatic(inner.getModifiers()) ? 1 : 0, 1);
            Check.due(inner.getName() + " is public", Modifier.isPublic(inner.getModifiers()) ? 1 : 0, 0);
        }
        Check.due("NONE", SecretLots.NONE, -1);
        Check.due("BAD", SecretLots.BAD, -2);
        Check.due("NOT", SecretLots.NOT, -3);
        Check.due("FULL", SecretLots.FULL, -4);
        Check.end("FaceTest");
    }

    private static String told(Method m) {
        StringBuilder text = new StringBuilder();
        text.append(m.getReturnType().getName()).append(' ').append(m.getName()).append('(');
        for (int i = 0; i < m.getParameterCount(); i++) {
            text.append(i == 0 ? "" : ",").append(m.getParameterTypes()[i].getName());
        }
        return text.append(')').toString();
    }
}
