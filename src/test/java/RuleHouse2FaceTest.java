import java.lang.reflect.Constructor;
import java.lang.reflect.Field;
import java.lang.reflect.Member;
import java.lang.reflect.Method;
import java.lang.reflect.Modifier;
import java.util.Set;
import java.util.TreeSet;

/** 'The public face' of the document: every member as it stands there, and none beside. */
public final class RuleHouse2FaceTest {
    private static final Set<String> FACE = Set.of(
        "public static final int RuleHouse2.NONE",
        "public RuleHouse2(int)",
        "public int RuleHouse2.rule(int,int,boolean)",
        "public int RuleHouse2.make(int)",
        "public int RuleHouse2.attribute(int,int,int)",
        "public int RuleHouse2.target(int)",
        "public int RuleHouse2.run(int)",
        "public int RuleHouse2.action(int,int)",
        "public int RuleHouse2.provider(int,int)",
        "public int RuleHouse2.failed(int,int)",
        "public long RuleHouse2.cell(int)",
        "public boolean RuleHouse2.same(int,int)",
        "public long RuleHouse2.divide(int,long,long) throws java.lang.ArithmeticException",
        "public int RuleHouse2.handle(int) throws java.lang.IllegalStateException");

    private static int wrong = 0;

    private static void complain(String what) {
        wrong++;
        System.out.println(what);
    }

    private static boolean isSeen(Member member) {
        return !member.isSynthetic() && !Modifier.isPrivate(member.getModifiers());
    }

    private static void membersAreThoseOfTheFace() {
        Set<String> seen = new TreeSet<>();
        for (Field field : RuleHouse2.class.getDeclaredFields()) {
            if (isSeen(field)) seen.add(field.toString());
        }
        for (Constructor<?> constructor : RuleHouse2.class.getDeclaredConstructors()) {
            if (isSeen(constructor)) seen.add(constructor.toString());
        }
        for (Method method : RuleHouse2.class.getDeclaredMethods()) {
            if (isSeen(method)) seen.add(method.toString());
        }
        for (String member : FACE) {
            if (!seen.contains(member)) complain("not there: " + member);
        }
        for (String member : seen) {
            if (!FACE.contains(member)) complain("not of the face: " + member);
        }
    }

    private static void classIsPublicAndFinal() {
        int modifiers = RuleHouse2.class.getModifiers();
        if (!Modifier.isPublic(modifiers) || !Modifier.isFinal(modifiers)) complain("not public and final");
        if (RuleHouse2.class.getSuperclass() != Object.class) complain("extends a class");
        if (RuleHouse2.class.getInterfaces().length != 0) complain("implements an interface");
    }

    private static void noPrivateMethodHasAPublicName() {
        for (Method hidden : RuleHouse2.class.getDeclaredMethods()) {
            for (Method shown : RuleHouse2.class.getMethods()) {
                if (Modifier.isPrivate(hidden.getModifiers()) && hidden.getName().equals(shown.getName())) {
                    complain("a private method has a public name: " + hidden);
                }
            }
        }
    }

    /** Without static state no house can know of another. */
    private static void staticFieldsAreFinal() {
        for (Field field : RuleHouse2.class.getDeclaredFields()) {
            int modifiers = field.getModifiers();
            if (Modifier.isStatic(modifiers) && !Modifier.isFinal(modifiers)) complain("static state: " + field);
        }
    }

    private static void classesInsideAreStaticAndHidden() {
        for (Class<?> inside : RuleHouse2.class.getDeclaredClasses()) {
            int modifiers = inside.getModifiers();
            boolean hidden = !Modifier.isPublic(modifiers) && !Modifier.isProtected(modifiers);
            if (!hidden || !Modifier.isStatic(modifiers)) complain("not hidden and static: " + inside);
        }
    }

    public static void main(String[] args) {
        membersAreThoseOfTheFace();
        classIsPublicAndFinal();
        noPrivateMethodHasAPublicName();
        staticFieldsAreFinal();
        classesInsideAreStaticAndHidden();
        System.out.println(wrong == 0 ? "the face is as it stands in the document" : wrong + " faults of the face");
        if (wrong != 0) {
            System.exit(1);
        }
    }
}
