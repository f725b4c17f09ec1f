import java.lang.reflect.Member;
import java.lang.reflect.Modifier;
import java.util.Set;
import java.util.TreeSet;

/** The public face, and no other member that can be seen from outside (LANGUAGE.md, rule 1). */
public final class FaceTest {
    private static final Due DUE = new Due("FaceTest");
    private static final String[] METHODS = {
        "int tray(int, int, int)", "int vial(int, boolean, int)", "int hold(int, int)", "int clear(int)", "int sort(int)",
        "int length(int)", "long ask(int, int, int)", "int fill(int, int, int, long)", "int pour(int, int, int)",
        "long total(int, boolean)", "int lift(int, int)", "int take(int)", "int think(int, long)", "int lay(int, int)",
        "int set(int)", "int hand()", "long value()", "int alike(int)", "int undo()", "int watch(int, int, int, int)",
        "int patrol()", "int told(int, int)", "int fault()", "int count(int)"};

    public static void main(String[] args) {
        DUE.is("UNKNOWN", DoseRacks.UNKNOWN, -1);
        DUE.is("OUTSIDE", DoseRacks.OUTSIDE, -2);
        DUE.is("FULL", DoseRacks.FULL, -3);
        DUE.is("NONE", DoseRacks.NONE, -4);
        DUE.is("LOST", DoseRacks.LOST, Long.MIN_VALUE);
        DUE.holds("the class is public and final",
            Modifier.isPublic(DoseRacks.class.getModifiers()) && Modifier.isFinal(DoseRacks.class.getModifiers()));
        constructors();
        fields();
        methods();
        classesInside();
        DUE.end();
    }

    private static boolean isSeen(Member member) {
        return !Modifier.isPrivate(member.getModifiers());
    }

    private static void constructors() {
        var all = DoseRacks.class.getDeclaredConstructors();
        DUE.is("constructors", all.length, 1);
        DUE.holds("it is public and takes nothing",
            Modifier.isPublic(all[0].getModifiers()) && all[0].getParameterCount() == 0);
    }

    private static void fields() {
        Set<String> seen = new TreeSet<>();
        for (var field : DoseRacks.class.getDeclaredFields()) {
            if (isSeen(field)) {
                seen.add(field.toString());
            } else if (Modifier.isStatic(field.getModifiers())) {
                DUE.holds(field + " is final", Modifier.isFinal(field.getModifiers()));
            }
        }
        Set<String> want = new TreeSet<>();
        for (String name : new String[] {"UNKNOWN", "OUTSIDE", "FULL", "NONE"}) {
            want.add("public static final int DoseRacks." + name);
        }
        want.add("public static final long DoseRacks.LOST");
        DUE.holds("fields " + seen, seen.equals(want));
    }

    private static void methods() {
        Set<String> seen = new TreeSet<>();
        Set<String> names = new TreeSet<>();
        for (var method : DoseRacks.class.getDeclaredMethods()) {
            if (isSeen(method)) {
                DUE.holds(method + " is public", Modifier.isPublic(method.getModifiers()));
                seen.add(method.toString().replace("public ", "").replace("DoseRacks.", "").replace(",", ", "));
                names.add(method.getName());
            }
        }
        DUE.holds("methods " + seen, seen.equals(new TreeSet<>(Set.of(METHODS))));
        for (var method : DoseRacks.class.getDeclaredMethods()) {
            DUE.holds(method + " bears its own name", isSeen(method) || !names.contains(method.getName()));
        }
    }

    /** Rules 1, 5 and 11: no name of the face inside, no state that all objects share, few fields. */
    private static void membersOf(Class<?> inside) {
        for (var method : inside.getDeclaredMethods()) {
            for (String face : METHODS) {
                DUE.holds(method + " is not named as " + face, !face.contains(" " + method.getName() + "("));
            }
        }
        int held = 0;
        for (var field : inside.getDeclaredFields()) {
            DUE.holds(field + " is of its object", !Modifier.isStatic(field.getModifiers()));
            held++;
        }
        DUE.holds(inside + " has few fields", held <= 20);
    }

    private static void classesInside() {
        for (var inside : DoseRacks.class.getDeclaredClasses()) {
            membersOf(inside);
            int modifiers = inside.getModifiers();
            DUE.holds(inside + " is static and not public",
                Modifier.isStatic(modifiers) && !Modifier.isPublic(modifiers) && !Modifier.isProtected(modifiers));
        }
        DUE.holds("at most twelve classes", DoseRacks.class.getDeclaredClasses().length < 12);
    }
}
