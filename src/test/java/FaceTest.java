import java.lang.reflect.Constructor;
import java.lang.reflect.Field;
import java.lang.reflect.Method;
import java.lang.reflect.Modifier;
import java.util.Set;
import java.util.TreeSet;

/** The class has the document's public face and shows no other member but classes, as LANGUAGE.md's rule 1 asks. */
public final class FaceTest {
    private static final Set<String> DUE = Set.of(
        "public final class ModeKeeper",
        "public static final int ModeKeeper.NONE",
        "public ModeKeeper()",
        "public int ModeKeeper.move(int,int)",
        "public int ModeKeeper.enter(int)",
        "public boolean ModeKeeper.alarm(int)",
        "public boolean ModeKeeper.look(int)",
        "public int ModeKeeper.put(int)",
        "public int ModeKeeper.form(int,int)",
        "public int ModeKeeper.remove(int)",
        "public int ModeKeeper.enable(int,boolean)",
        "public int ModeKeeper.due(int,int)",
        "public int ModeKeeper.parameter(int,int)",
        "public int ModeKeeper.value(int)",
        "public int ModeKeeper.about(int,int)");

    private static Set<String> shown() {
        Set<String> shown = new TreeSet<>();
        shown.add(ModeKeeper.class.toGenericString());
        for (Field f : ModeKeeper.class.getDeclaredFields()) {
            if (!Modifier.isPrivate(f.getModifiers())) shown.add(f.toString());
        }
        for (Constructor<?> c : ModeKeeper.class.getDeclaredConstructors()) {
            if (!Modifier.isPrivate(c.getModifiers())) shown.add(c.toString());
        }
        for (Method m : ModeKeeper.class.getDeclaredMethods()) {
            if (!Modifier.isPrivate(m.getModifiers())) shown.add(m.toString());
        }
        for (Class<?> c : ModeKeeper.class.getDeclaredClasses()) {
            boolean isOpen = Modifier.isPublic(c.getModifiers()) || Modifier.isProtected(c.getModifiers());
            if (isOpen || !Modifier.isStatic(c.getModifiers())) shown.add(c.toGenericString());
        }
        return shown;
    }

    private static Set<String> namesOfMethods(boolean isPrivate) {
        Set<String> names = new TreeSet<>();
        for (Method m : ModeKeeper.class.getDeclaredMethods()) {
            if (Modifier.isPrivate(m.getModifiers()) == isPrivate) names.add(m.getName());
        }
        return names;
    }

    public static void main(String[] args) {
        Set<String> missing = new TreeSet<>(DUE);
        missing.removeAll(shown());
        Set<String> tooMany = new TreeSet<>(shown());
        tooMany.removeAll(DUE);
        for (String member : missing) {
            System.out.println("missing: " + member);
        }
        for (String member : tooMany) {
            System.out.println("not in the document: " + member);
        }
        Set<String> twice = namesOfMethods(true);
        twice.retainAll(namesOfMethods(false));
        for (String name : twice) {
            System.out.println("a private method bears the name of a public one: " + name);
        }
        if (!missing.isEmpty() || !tooMany.isEmpty() || !twice.isEmpty()) {
            System.exit(1);
        }
        System.out.println("the face is as due");
    }
}
