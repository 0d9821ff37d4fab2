import java.lang.reflect.Field;
import java.lang.reflect.Method;
import java.lang.reflect.Modifier;
import java.util.Arrays;
import java.util.HashMap;
import java.util.HashSet;
import java.util.Map;
import java.util.Set;

/** The class's public face is the document's, and nothing else can be seen of it (rule 1 of LANGUAGE.md). */
final class FaceTest {
    private static final String[] ONE_ARGUMENT_EXCEPTION = {"guest", "frame", "owner", "host"};

    private FaceTest() {
    }

    public static void main(String[] args) {
        Check.holds("public and final",
            Modifier.isPublic(NestedPager.class.getModifiers()) && Modifier.isFinal(NestedPager.class.getModifiers()));
        Check.due("constructors", NestedPager.class.getDeclaredConstructors().length, 1);
        constants();
        methods();
        Check.end();
    }

    private static void constants() {
        Check.due("NONE", NestedPager.NONE, -1);
        Check.due("FAULT", NestedPager.FAULT, -2);
        Check.due("EXIT", NestedPager.EXIT, -3);
        Check.due("ROOM", NestedPager.ROOM, -4);
        int seen = 0;
        for (Field f : NestedPager.class.getDeclaredFields()) {
            seen += Modifier.isPrivate(f.getModifiers()) ? 0 : 1;
        }
        Check.due("fields to be seen", seen, 4);
    }

    private static void methods() {
        Map<String, Integer> parameters = new HashMap<>();
        String[] names = {"guest", "destroy", "vcpu", "set", "get", "access", "run", "exit", "flush", "aside", "deny",
            "swap", "move", "target", "harvest", "dirty", "entry", "poke", "peek", "frame", "owner", "count", "printed",
            "host"};
        int[] counts = {1, 1, 1, 3, 2, 4, 2, 2, 3, 3, 3, 2, 2, 2, 1, 1, 2, 6, 2, 2, 2, 2, 2, 1};
        for (int i = 0; i < names.length; i++) {
            parameters.put(names[i], counts[i]);
        }
        Set<String> seen = new HashSet<>();
        for (Method m : NestedPager.class.getDeclaredMethods()) {
            String name = m.getName();
            if (Modifier.isPrivate(m.getModifiers())) {
                Check.holds("private " + name + " bears no public name", !parameters.containsKey(name));
                continue;
            }
            Check.holds(name + " is of the face, once", parameters.containsKey(name) && seen.add(name));
            Check.holds(name + " is public", Modifier.isPublic(m.getModifiers()) && !Modifier.isStatic(m.getModifiers()));
            Check.due(name + "'s parameters", m.getParameterCount(), parameters.getOrDefault(name, -1));
            Check.holds(name + "'s answer", m.getReturnType() == (name.equals("set") ? void.class : int.class));
            Check.due(name + "'s exceptions", m.getExceptionTypes().length, exceptionsOf(name));
        }
        Check.due("methods of the face", seen.size(), names.length);
    }

    private static int exceptionsOf(String name) {
        if (name.equals("dirty")) {
            return 0;
        }
        return Arrays.asList(ONE_ARGUMENT_EXCEPTION).contains(name) ? 1 : 2;
    }
}
