import java.lang.reflect.Constructor;
import java.lang.reflect.Field;
import java.lang.reflect.Method;
import java.lang.reflect.Modifier;
import java.util.Set;
import java.util.TreeSet;

/** The public face, and promise 1: a new object. */
public final class FaceTest {
    public static void main(String[] args) {
        constants();
        members();
        newObject();
        objectsAreApart();
        Check.end();
    }

    private static void constants() {
        Check.due("BAD", VirtualRewrite.BAD, -1);
        Check.due("FULL", VirtualRewrite.FULL, -2);
        Check.due("LARGE", VirtualRewrite.LARGE, -3);
        Check.due("NO", VirtualRewrite.NO, -4);
    }

    private static void members() {
        Set<String> due = new TreeSet<>(Set.of(
                "key(int,int,boolean)", "row(int,int,int,int)", "drop(int,int)",
                "mapping(int,int,int,int,int,int)", "triples()", "atom(int,int,int)",
                "span(int,int,int)", "clear()", "unions()"));
        due.addAll(Set.of("union(int,int)", "estimate(int)", "run()", "value(int,int)", "found(int,int)"));
        Set<String> seen = new TreeSet<>();
        Set<String> names = new TreeSet<>();
        Set<String> hidden = new TreeSet<>();
        for (Method m : VirtualRewrite.class.getDeclaredMethods()) {
            if (Modifier.isPrivate(m.getModifiers())) {
                hidden.add(m.getName());
                continue;
            }
            String text = m.toString();
            seen.add(m.getName() + text.substring(text.indexOf('('), text.indexOf(')') + 1));
            names.add(m.getName());
            Check.due(m.getName() + " answers an int", m.getReturnType() == int.class ? 1 : 0, 1);
            Check.due(m.getName() + " is public", Modifier.isPublic(m.getModifiers()) ? 1 : 0, 1);
        }
        Check.due("methods are " + seen, seen.equals(due) ? 1 : 0, 1);
        hidden.retainAll(names);
        Check.due("private methods with public names", hidden.size(), 0);
        Constructor<?>[] constructors = VirtualRewrite.class.getDeclaredConstructors();
        Check.due("constructors", constructors.length, 1);
        Check.due("constructor's parameters", constructors[0].getParameterCount(), 0);
        Set<String> fields = new TreeSet<>();
        for (Field f : VirtualRewrite.class.getDeclaredFields()) {
            if (!Modifier.isPrivate(f.getModifiers())) {
                fields.add(f.getName());
            }
        }
        Check.due("fields are " + fields, fields.equals(Set.of("BAD", "FULL", "LARGE", "NO")) ? 1 : 0, 1);
    }

    private static void newObject() {
        VirtualRewrite x = new VirtualRewrite();
        Check.due("new: found(0, 0)", x.found(0, 0), -1);
        Check.due("new: value(0, 0)", x.value(0, 0), -1);
        Check.due("new: triples()", x.triples(), 0);
        Check.due("new: unions()", x.unions(), -1);
        Check.due("new: run()", x.run(), -1);
        Check.due("new: clear()", x.clear(), 0);
        for (int table = 0; table < 4; table++) {
            Check.due("new: drop", x.drop(table, 0), -1);
            for (int column = 0; column < 3; column++) {
                Check.due("new: key is none", x.key(table, column, false), 0);
            }
            Check.due("new: first row", x.row(table, 0, 0, 0), 1);
        }
        Check.due("new: mapping", x.mapping(0, 0, 0, 0, 0, 0), 0);
        Check.due("new: atom", x.atom(0, 0, 0), 1);
        Check.due("new: span", x.span(0, 0, 0), 1);
    }

    private static void objectsAreApart() {
        VirtualRewrite x = new VirtualRewrite();
        VirtualRewrite y = new VirtualRewrite();
        x.row(0, 1, 2, 3);
        x.mapping(0, 0, 0, 0, 0, 1);
        x.atom(0, -1, -2);
        Check.due("x.run()", x.run(), 1);
        Check.due("y.triples()", y.triples(), 0);
        Check.due("y.unions()", y.unions(), -1);
        Check.due("y.found(0, 0)", y.found(0, 0), -1);
    }
}
