import java.lang.reflect.Constructor;
import java.lang.reflect.Field;
import java.lang.reflect.Member;
import java.lang.reflect.Method;
import java.lang.reflect.Modifier;
import java.util.ArrayList;
import java.util.List;
import java.util.Set;
import java.util.StringJoiner;
import java.util.TreeSet;

/** The face is the document's, and nothing else of the class is to be seen (rules 1, 2, 5 and 11). */
public final class FaceTest {
    /** As the document writes it, but for the names of the parameters. */
    private static final String[] FACE = {
        "int ask(int) throws IllegalArgumentException",
        "int book(int) throws IllegalArgumentException",
        "int bread(int,int,int) throws NoSuchElementException, IllegalArgumentException",
        "boolean can(int) throws NoSuchElementException",
        "int count(int)",
        "int estate(int) throws NoSuchElementException",
        "int even()",
        "int fault()",
        "int feed(int,int,int,int,int)",
        "int free()",
        "int grudge(int,int) throws NoSuchElementException, IllegalArgumentException",
        "int image()",
        "int law(int) throws IllegalArgumentException",
        "int least(int,int) throws IllegalArgumentException",
        "int lied(int) throws IllegalArgumentException",
        "int more(int) throws NoSuchElementException",
        "int mutual(int) throws IllegalArgumentException",
        "int net(int) throws NoSuchElementException",
        "long odds(int,int,int) throws IllegalArgumentException",
        "int ones(int) throws IllegalArgumentException",
        "int order(int) throws IllegalArgumentException",
        "int parish(int) throws IllegalArgumentException",
        "int proudest(int) throws IllegalArgumentException",
        "int ready(int) throws IllegalArgumentException",
        "int restore()",
        "int rings()",
        "int soul(int,int) throws NoSuchElementException, IllegalArgumentException",
        "int span(int,int,int,int,int) throws IllegalArgumentException",
        "int status(int)",
        "int steps(int,int,int) throws IllegalArgumentException",
        "int stuck()",
        "int told(int) throws IllegalArgumentException",
        "int undo()",
        "int way(int,int) throws NoSuchElementException",
        "int work(int) throws IllegalArgumentException",
        "int worst(int) throws IllegalArgumentException",
        "int would(int,int,int,int,int,int,int) throws IllegalArgumentException",
        "int year(int,int,int,int) throws IllegalArgumentException"};

    private static final List<String> wrong = new ArrayList<>();

    public static void main(String[] args) {
        face();
        membersOf(LychGate.class);
        names();
        for (Class<?> inside : LychGate.class.getDeclaredClasses()) {
            check(Modifier.isStatic(inside.getModifiers()), inside + " is static");
            check(!Modifier.isPublic(inside.getModifiers()) && !Modifier.isProtected(inside.getModifiers()), inside + " is hidden");
            sizeOf(inside);
        }
        sizeOf(LychGate.class);
        check(LychGate.class.getDeclaredClasses().length + 1 <= 12, "twelve classes at most");
        for (String w : wrong) {
            System.out.println("not so: " + w);
        }
        System.out.println(wrong.isEmpty() ? "the face is as due" : wrong.size() + " are not so");
        if (!wrong.isEmpty()) {
            System.exit(1);
        }
    }

    private static void check(boolean right, String what) {
        if (!right) {
            wrong.add(what);
        }
    }

    private static String signature(Method m) {
        StringJoiner parameters = new StringJoiner(",", "(", ")");
        for (Class<?> p : m.getParameterTypes()) {
            parameters.add(p.getName());
        }
        StringJoiner thrown = new StringJoiner(", ", " throws ", "").setEmptyValue("");
        for (Class<?> e : m.getExceptionTypes()) {
            thrown.add(e.getSimpleName());
        }
        return m.getReturnType().getName() + " " + m.getName() + parameters + thrown;
    }

    private static void face() {
        Set<String> due = new TreeSet<>(List.of(FACE));
        Set<String> got = new TreeSet<>();
        for (Method m : LychGate.class.getDeclaredMethods()) {
            if (Modifier.isPublic(m.getModifiers())) {
                got.add(signature(m));
                check(!Modifier.isStatic(m.getModifiers()), m + " is no static method");
            }
        }
        check(due.equals(got), "the public methods " + got);
        int modifiers = LychGate.class.getModifiers();
        check(Modifier.isPublic(modifiers) && Modifier.isFinal(modifiers), "public and final");
        Constructor<?>[] constructors = LychGate.class.getDeclaredConstructors();
        check(constructors.length == 1 && constructors[0].getParameterCount() == 0
            && Modifier.isPublic(constructors[0].getModifiers()), "one public constructor");
    }

    private static void membersOf(Class<?> c) {
        List<Member> members = new ArrayList<>(List.of(c.getDeclaredMethods()));
        members.addAll(List.of(c.getDeclaredFields()));
        for (Member m : members) {
            boolean known = m instanceof Method || m.getName().equals("NONE");
            boolean hidden = Modifier.isPrivate(m.getModifiers());
            check(hidden || Modifier.isPublic(m.getModifiers()) && known, m + " is private");
        }
    }

    /** No method of any class inside has a public one's name. */
    private static void names() {
        Set<String> names = new TreeSet<>();
        for (String s : FACE) {
            names.add(s.substring(s.indexOf(' ') + 1, s.indexOf('(')));
        }
        List<Class<?>> all = new ArrayList<>(List.of(LychGate.class.getDeclaredClasses()));
        all.add(LychGate.class);
        for (Class<?> c : all) {
            for (Method m : c.getDeclaredMethods()) {
                boolean face = c == LychGate.class && Modifier.isPublic(m.getModifiers());
                check(face || !names.contains(m.getName()), m + " has a name of its own");
            }
        }
    }

    private static void sizeOf(Class<?> c) {
        int fields = 0;
        for (Field f : c.getDeclaredFields()) {
            fields += Modifier.isStatic(f.getModifiers()) ? 0 : 1;
            check(!Modifier.isStatic(f.getModifiers()) || Modifier.isFinal(f.getModifiers()), f + " is final");
        }
        check(fields <= 20, c + " has twenty fields at most");
        for (Method m : c.getDeclaredMethods()) {
            check(m.getParameterCount() <= 7, m + " takes seven at most");
        }
    }
}
