import java.lang.reflect.Constructor;
import java.lang.reflect.Field;
import java.lang.reflect.Member;
import java.lang.reflect.Method;
import java.lang.reflect.Modifier;
import java.util.Set;
import java.util.TreeSet;

/** "The public face" and the first rules of LANGUAGE.md: the members that the document has, and no others. */
public final class FaceTest {
    private static final String REFUSES = " throws java.lang.IllegalArgumentException";
    private static final Set<String> METHODS = Set.of(
            "public void TrapMachine.load(int,int)" + REFUSES,
            "public int TrapMachine.word(int)" + REFUSES,
            "public void TrapMachine.line(int,boolean)" + REFUSES,
            "public void TrapMachine.filled(int)",
            "public void TrapMachine.jump(int)",
            "public int TrapMachine.run(int)",
            "public int TrapMachine.state()",
            "public int TrapMachine.register(int)" + REFUSES,
            "public int TrapMachine.control(int)" + REFUSES,
            "public int TrapMachine.entry(int,int)" + REFUSES);

    public static void main(String[] args) {
        Check.sentence("public final class TrapMachine", FaceTest::classItself);
        Check.sentence("public TrapMachine()", FaceTest::constructor);
        Check.sentence("the public face's methods", FaceTest::methods);
        Check.sentence("no other public, protected or package-visible member", FaceTest::noOthers);
        Check.sentence("classes inside it are private or package-visible and static", FaceTest::classesInside);
        Check.sentence("No private method bears the name of a public one", FaceTest::namesOfMethods);
        Check.sentence("Static fields are final", FaceTest::staticFields);
        Check.sentence("An object is used for at most 512 calls", FaceTest::longUse);
        Check.end();
    }

    private static void dueTrue(String what, boolean holds) {
        Check.due(what, holds ? 1 : 0, 1);
    }

    private static void classItself() {
        int modifiers = TrapMachine.class.getModifiers();
        dueTrue("public", Modifier.isPublic(modifiers));
        dueTrue("final", Modifier.isFinal(modifiers));
        dueTrue("of no package", TrapMachine.class.getPackageName().isEmpty());
        dueTrue("a class of its own", TrapMachine.class.getSuperclass() == Object.class);
    }

    private static void constructor() {
        Constructor<?>[] all = TrapMachine.class.getDeclaredConstructors();
        Check.due("constructors", all.length, 1);
        dueTrue(all[0].toString(), all[0].toString().equals("public TrapMachine()"));
    }

    private static void methods() {
        Set<String> found = new TreeSet<>();
        for (Method method : TrapMachine.class.getDeclaredMethods()) {
            if (!Modifier.isPrivate(method.getModifiers())) {
                found.add(method.toString());
            }
        }
        dueTrue("methods " + found, found.equals(METHODS));
    }

    private static void noOthers() {
        for (Field field : TrapMachine.class.getDeclaredFields()) {
            duePrivate(field);
        }
    }

    private static void duePrivate(Member member) {
        dueTrue(member.getName() + " is private", Modifier.isPrivate(member.getModifiers()));
    }

    private static void classesInside() {
        for (Class<?> inside : TrapMachine.class.getDeclaredClasses()) {
            int modifiers = inside.getModifiers();
            dueTrue(inside + " is static", Modifier.isStatic(modifiers));
            dueTrue(inside + " is not seen outside", (modifiers & (Modifier.PUBLIC | Modifier.PROTECTED)) == 0);
        }
        dueTrue("at most twelve classes", TrapMachine.class.getDeclaredClasses().length < 12);
    }

    private static void namesOfMethods() {
        Set<String> names = new TreeSet<>();
        for (String method : METHODS) {
            names.add(method.replaceAll(".*TrapMachine\\.(\\w+)\\(.*", "$1"));
        }
        Check.due("public names", names.size(), METHODS.size());
        dueNoneOf(names, TrapMachine.class);
        for (Class<?> inside : TrapMachine.class.getDeclaredClasses()) {
            dueNoneOf(names, inside);
        }
    }

    private static void dueNoneOf(Set<String> names, Class<?> place) {
        for (Method method : place.getDeclaredMethods()) {
            boolean taken = names.contains(method.getName()) && !METHODS.contains(method.toString());
            dueTrue(method + " has a name of its own", !taken);
        }
    }

    private static void staticFields() {
        dueStaticFinal(TrapMachine.class);
        for (Class<?> inside : TrapMachine.class.getDeclaredClasses()) {
            dueStaticFinal(inside);
        }
    }

    private static void dueStaticFinal(Class<?> place) {
        for (Field field : place.getDeclaredFields()) {
            int modifiers = field.getModifiers();
            dueTrue(field + " is final", !Modifier.isStatic(modifiers) || Modifier.isFinal(modifiers));
        }
    }

    /** The 512th call answers as the first ones do, though all before it were as long as can be. */
    private static void longUse() {
        TrapMachine x = new TrapMachine();
        x.load(0, Rig.op(6, 1, 1, 1));
        x.load(4, Rig.op(12, 0, 0, -1));
        for (int call = 3; call < 512; call++) {
            Check.due("steps of call " + call, x.run(Integer.MAX_VALUE), 2000);
        }
        Check.due("the 512th call", x.register(1), 509 * 1000);
    }
}
