import java.lang.reflect.Field;
import java.lang.reflect.Member;
import java.lang.reflect.Method;
import java.lang.reflect.Modifier;
import java.util.Arrays;
import java.util.Set;
import java.util.TreeSet;

/** The face is the document's and no more, and what LANGUAGE.md asks of the members is kept. */
public final class FaceTests {
    private static final Checks CHECKS = new Checks();
    private static final String[] FACE = {
        "int office(int)", "int pen(int,int)", "int comes(int,int)", "int move(int,int)",
        "int way(int,int,int)", "int set(int,int,int)", "int hours(int)", "int draw(int,int)",
        "long odds(int,int,int,int)", "long mean(int,int,int)", "long stays(int,int,int)",
        "int can(int,int)", "int whose(int,int)", "int sink(int)", "int heap(int,int)",
        "int buy(int,int,int,int,int,int)", "int lay(int,int,int,int)", "int bestKind(int,int)",
        "int counts(int,int)", "int collect()", "int collected(int)", "int sign(int,int)",
        "int keeps(int,int)", "int lent(int)", "int seeded(int,int,int,int)", "int judge(int,int)",
        "int image()", "int restore()", "int count(int)", "int keep(int,int,int,int)",
        "int row(int,int,int)", "int put(int,int,int)", "long element(int,int)",
        "int copy(int,int,int,int,int)", "int cost(int)", "int toss(int)"};

    private FaceTests() {
    }

    public static void main(String[] args) throws ReflectiveOperationException {
        faceIsTheDocuments();
        membersAreOfTheLanguage(PensGo.class);
        for (Class<?> inside : PensGo.class.getDeclaredClasses()) {
            due(inside + " is static", Modifier.isStatic(inside.getModifiers()));
            due(inside + " is private", Modifier.isPrivate(inside.getModifiers()));
            membersAreOfTheLanguage(inside);
        }
        due("twelve classes", PensGo.class.getDeclaredClasses().length < 12);
        CHECKS.end();
    }

    /** The names of the calls, in the document's order. */
    static String[] names() {
        String[] names = new String[FACE.length];
        for (int i = 0; i < FACE.length; i++) {
            names[i] = FACE[i].substring(FACE[i].indexOf(' ') + 1, FACE[i].indexOf('('));
        }
        return names;
    }

    private static void due(String what, boolean holds) {
        CHECKS.due(what, holds ? 1 : 0, 1);
    }

    private static void faceIsTheDocuments() throws ReflectiveOperationException {
        int modifiers = PensGo.class.getModifiers();
        due("public and final", Modifier.isPublic(modifiers) && Modifier.isFinal(modifiers));
        due("one constructor", PensGo.class.getDeclaredConstructors().length == 1);
        due("public constructor", Modifier.isPublic(
            PensGo.class.getDeclaredConstructor().getModifiers()));
        Set<String> publicNames = new TreeSet<>();
        Set<String> signatures = new TreeSet<>();
        for (Method method : PensGo.class.getDeclaredMethods()) {
            if (Modifier.isPublic(method.getModifiers())) {
                publicNames.add(method.getName());
                String types = Arrays.toString(method.getParameterTypes());
                signatures.add(method.getReturnType() + " " + method.getName()
                    + types.replace('[', '(').replace(']', ')').replace(" ", ""));
            }
        }
        due("face " + signatures, signatures.equals(new TreeSet<>(Arrays.asList(FACE))));
        for (Method method : PensGo.class.getDeclaredMethods()) {
            boolean open = Modifier.isPublic(method.getModifiers());
            due(method + " is public or private", open
                || Modifier.isPrivate(method.getModifiers()));
            due(method + " has a name of its own", open
                || !publicNames.contains(method.getName()));
        }
        Class<?>[] thrown = PensGo.class.getMethod("element", int.class, int.class)
            .getExceptionTypes();
        due("element throws", Arrays.equals(thrown, new Class<?>[] {
            IllegalArgumentException.class, IllegalStateException.class}));
    }

    private static void membersAreOfTheLanguage(Class<?> one) {
        int fields = 0;
        for (Field field : one.getDeclaredFields()) {
            boolean fixed = Modifier.isStatic(field.getModifiers());
            due(field + " is final, if static", !fixed
                || Modifier.isFinal(field.getModifiers()));
            due(field + " is not open", !isOpen(field));
            fields += fixed ? 0 : 1;
        }
        due(one + " has at most twenty fields", fields <= 20);
        for (Method method : one.getDeclaredMethods()) {
            due(method + " has at most seven parameters", method.getParameterCount() <= 7);
        }
    }

    private static boolean isOpen(Member member) {
        return Modifier.isPublic(member.getModifiers())
            || Modifier.isProtected(member.getModifiers());
    }
}
