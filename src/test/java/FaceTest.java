import java.lang.reflect.Constructor;
import java.lang.reflect.Field;
import java.lang.reflect.Method;
import java.lang.reflect.Modifier;
import java.util.ArrayList;
import java.util.List;
import java.util.Set;
import java.util.TreeSet;

/** The public face: what the document names is there, and nothing else can be seen from outside. */
public final class FaceTest {
    private static final Due due = new Due("FaceTest");
    /** Each call with how many numbers it takes. */
    private static final String FACE = "row3 set3 copy5 drop1 feed1 run0 fault0 undo0 ticks1 tip1 lead3 again2 marble2 "
        + "piece2 stand1 ahead2 stands3 trays2 when1 rest0 tips2 order2 leads3 sets2 share2 byTurns2 who5 weights5 "
        + "jam4 drawn3 image1 restore1 kind1 as2 ask2 trace1 count1 status0";

    public static void main(String[] args) throws Exception {
        Class<?> c = MarbleRun.class;
        due.holds("public and final", Modifier.isPublic(c.getModifiers()) && Modifier.isFinal(c.getModifiers()));
        constants(c);
        constructors(c);
        calls(c);
        names(c);
        due.end();
    }

    private static void constants(Class<?> c) throws Exception {
        String[] names = {"NONE", "BAD", "STATE", "FULL"};
        for (int k = 0; k < 4; k++) {
            Field f = c.getField(names[k]);
            due.holds(names[k] + " is a constant int", f.getType() == int.class && Modifier.isFinal(f.getModifiers()));
            due.is(names[k], f.getInt(null), -1000000 - k);
        }
        due.is("public fields", c.getFields().length, 4);
        for (Field f : c.getDeclaredFields()) {
            due.holds(f.getName() + " is public or private",
                Modifier.isPublic(f.getModifiers()) || Modifier.isPrivate(f.getModifiers()));
            due.holds(f.getName() + " is no static that changes",
                !Modifier.isStatic(f.getModifiers()) || Modifier.isFinal(f.getModifiers()));
        }
    }

    private static void constructors(Class<?> c) {
        Constructor<?>[] all = c.getDeclaredConstructors();
        due.is("constructors", all.length, 1);
        due.is("its numbers", all[0].getParameterCount(), 0);
        due.holds("it is public", Modifier.isPublic(all[0].getModifiers()));
    }

    private static void calls(Class<?> c) {
        Set<String> told = new TreeSet<>(List.of(FACE.split(" ")));
        Set<String> there = new TreeSet<>();
        for (Method m : c.getDeclaredMethods()) {
            int mods = m.getModifiers();
            if (Modifier.isPublic(mods)) {
                there.add(m.getName() + m.getParameterCount());
                due.holds(m.getName() + " belongs to an object", !Modifier.isStatic(mods));
                due.holds(m.getName() + "'s answer",
                    m.getReturnType() == (m.getName().equals("jam") ? long.class : int.class));
                for (Class<?> p : m.getParameterTypes()) {
                    due.holds(m.getName() + " takes ints", p == int.class);
                }
            } else {
                due.holds(m.getName() + " is private", Modifier.isPrivate(mods));
            }
        }
        due.holds("the calls are " + told + ", there are " + there, told.equals(there));
    }

    /** No method inside bears the name of a public one, and no class inside is seen from outside. */
    private static void names(Class<?> c) {
        List<String> open = new ArrayList<>();
        for (String call : FACE.split(" ")) {
            open.add(call.substring(0, call.length() - 1));
        }
        for (Method m : c.getDeclaredMethods()) {
            due.holds(m.getName(), Modifier.isPublic(m.getModifiers()) || !open.contains(m.getName()));
        }
        for (Class<?> inner : c.getDeclaredClasses()) {
            due.holds(inner.getName() + " is private and static",
                Modifier.isPrivate(inner.getModifiers()) && Modifier.isStatic(inner.getModifiers()));
            for (Method m : inner.getDeclaredMethods()) {
                due.holds(inner.getName() + "." + m.getName(), !open.contains(m.getName()));
            }
        }
    }
}
