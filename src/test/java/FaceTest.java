import java.lang.reflect.Constructor;
import java.lang.reflect.Field;
import java.lang.reflect.Method;
import java.lang.reflect.Modifier;
import java.util.Set;
import java.util.TreeSet;

/** "The public face": the constants, the constructor and the methods, and no other member. */
public final class FaceTest {
    public static void main(String[] args) {
        constants();
        classItself();
        members();
        exceptions();
        Check.end();
    }

    private static void constants() {
        Check.due("BAD", VirtualRewrite.BAD, -1);
        Check.due("FULL", VirtualRewrite.FULL, -2);
        Check.due("LARGE", VirtualRewrite.LARGE, -3);
        Check.due("NO", VirtualRewrite.NO, -4);
    }

    private static void classItself() {
        int modifiers = VirtualRewrite.class.getModifiers();
        Check.due("the class is public", Modifier.isPublic(modifiers) ? 1 : 0, 1);
        Check.due("the class is final", Modifier.isFinal(modifiers) ? 1 : 0, 1);
        for (Class<?> inside : VirtualRewrite.class.getDeclaredClasses()) {
            int of = inside.getModifiers();
            Check.due(inside.getName() + " is static", Modifier.isStatic(of) ? 1 : 0, 1);
            Check.due(inside.getName() + " is hidden", Modifier.isPublic(of) || Modifier.isProtected(of) ? 1 : 0, 0);
        }
    }

    /** Of all methods, value alone tells of an exception. */
    private static void exceptions() {
        for (Method m : VirtualRewrite.class.getDeclaredMethods()) {
            Class<?>[] thrown = m.getExceptionTypes();
            Check.due("exceptions of " + m.getName(), thrown.length, m.getName().equals("value") ? 1 : 0);
            for (Class<?> t : thrown) {
                Check.due(m.getName() + " throws " + t.getName(), t == IllegalStateException.class ? 1 : 0, 1);
            }
        }
    }

    private static void members() {
        Set<String> due = new TreeSet<>(Set.of(
                "key(int,int,boolean)", "row(int,int,int,int)", "drop(int,int)",
                "mapping(int,int,int,int,int,int)", "triples()", "atom(int,int,int)",
                "span(int,int,int)", "clear()", "unions()"));
        due.addAll(Set.of("union(int,int)", "estimate(int)", "run()", "value(int,int)", "found(int,int)"));
        Set<String> seen = new TreeSet<>();
        Set<String> names = new TreeSet<>();
        Set<String> hidden = new TreeSet<>();
        for (Method m : VirtualRewrite.class.getDeclaredMethods()) {
            if (Modifier.isPrivate(m.getModifiers())) {
                hidden.add(m.getName());
                continue;
            }
            String text = m.toString();
            seen.add(m.getName() + text.substring(text.indexOf('('), text.indexOf(')') + 1));
            names.add(m.getName());
            Check.due(m.getName() + " answers an int", m.getReturnType() == int.class ? 1 : 0, 1);
            Check.due(m.getName() + " is public", Modifier.isPublic(m.getModifiers()) ? 1 : 0, 1);
        }
        Check.due("methods are " + seen, seen.equals(due) ? 1 : 0, 1);
        hidden.retainAll(names);
        Check.due("private methods with public names", hidden.size(), 0);
        Constructor<?>[] constructors = VirtualRewrite.class.getDeclaredConstructors();
        Check.due("constructors", constructors.length, 1);
        Check.due("constructor's parameters", constructors[0].getParameterCount(), 0);
        Set<String> fields = new TreeSet<>();
        for (Field f : VirtualRewrite.class.getDeclaredFields()) {
            if (!Modifier.isPrivate(f.getModifiers())) {
                fields.add(f.getName());
            }
        }
        Check.due("fields are " + fields, fields.equals(Set.of("BAD", "FULL", "LARGE", "NO")) ? 1 : 0, 1);
    }
}
