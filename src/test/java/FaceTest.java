import java.lang.reflect.Constructor;
import java.lang.reflect.Field;
import java.lang.reflect.Member;
import java.lang.reflect.Method;
import java.lang.reflect.Modifier;
import java.util.Arrays;
import java.util.Set;
import java.util.TreeSet;

/** The face of the class: all that the document has, and nothing else that is not private. */
public final class FaceTest {
    private static final Due DUE = new Due("FaceTest");
    private static final String[] CALLS = {
        "int wipe(int)", "int type(int, int)", "int feed(int, long, int)", "int copy(int, int)",
        "int swap(int, int)", "int concat(int, int, int)", "int substring(int, int, int, int)",
        "int tail(int, int, int)", "int number(int, int)", "int big(long, int)", "int length(int)",
        "boolean isEmpty(int)", "boolean isBlank(int)", "int charAt(int, int)", "int hash(int)",
        "int first(int, int)", "int firstFrom(int, int, int)", "int last(int, int)",
        "int lastFrom(int, int, int)", "int find(int, int)", "int findFrom(int, int, int)",
        "int findLast(int, int)", "int findLastFrom(int, int, int)", "boolean contains(int, int)",
        "boolean starts(int, int)", "boolean startsAt(int, int, int)", "boolean ends(int, int)",
        "boolean region(int, int, int, int, int)", "boolean regionAlike(int, int, int, int, int)",
        "boolean same(int, int)", "boolean alike(int, int)", "int compare(int, int)",
        "int compareAlike(int, int)", "int replaceSign(int, int, int, int)",
        "int replaceText(int, int, int, int)", "int trim(int, int)", "int strip(int, int)",
        "int repeat(int, int, int)", "int turn(int, int)", "int part(int, int, int)", "int pieces()",
        "int piece(int, int)", "int join(int, int)", "int count(int, int)", "int head(int, int)",
        "int foot(int, int)", "boolean holds(int, int, int)", "int keep(int)", "int back(int)",
        "long digest()"};

    public static void main(String[] args) {
        Class<?> face = TextShelves.class;
        DUE.is("the class's modifiers", face.getModifiers(), Modifier.PUBLIC | Modifier.FINAL);
        calls(face);
        constants(face);
        constructors(face);
        insides(face);
        DUE.end();
    }

    private static boolean isShown(Member member) {
        return !Modifier.isPrivate(member.getModifiers()) && !member.isSynthetic();
    }

    private static void calls(Class<?> face) {
        Set<String> shown = new TreeSet<>();
        Set<String> names = new TreeSet<>();
        for (Method method : face.getDeclaredMethods()) {
            if (isShown(method)) {
                String told = Arrays.toString(method.getParameterTypes());
                shown.add(method.getReturnType() + " " + method.getName()
                    + "(" + told.substring(1, told.length() - 1) + ")");
                names.add(method.getName());
                DUE.is(method + " is public alone", method.getModifiers(), Modifier.PUBLIC);
            }
        }
        Set<String> due = new TreeSet<>(Arrays.asList(CALLS));
        DUE.is("the calls " + shown + " against " + due, shown.equals(due) ? 1 : 0, 1);
        noneBearsSuchAName(face, names);
        for (Class<?> inside : face.getDeclaredClasses()) {
            noneBearsSuchAName(inside, names);
        }
    }

    private static void noneBearsSuchAName(Class<?> where, Set<String> names) {
        for (Method method : where.getDeclaredMethods()) {
            boolean bears = names.contains(method.getName());
            boolean may = where == TextShelves.class && isShown(method);
            DUE.is(method + " bears the name of a public one", bears && !may ? 1 : 0, 0);
        }
    }

    private static void constants(Class<?> face) {
        Set<String> shown = new TreeSet<>();
        for (Field field : face.getDeclaredFields()) {
            if (isShown(field)) {
                shown.add(field.getType() + " " + field.getName());
                int want = Modifier.PUBLIC | Modifier.STATIC | Modifier.FINAL;
                DUE.is(field + "'s modifiers", field.getModifiers(), want);
            }
        }
        Set<String> due = Set.of("int NONE", "int UNFIT", "int BEYOND", "int BAD", "int FULL");
        DUE.is("the constants " + shown, shown.equals(due) ? 1 : 0, 1);
    }

    private static void constructors(Class<?> face) {
        Constructor<?>[] all = face.getDeclaredConstructors();
        DUE.is("how many constructors", all.length, 1);
        DUE.is("the constructor's modifiers", all[0].getModifiers(), Modifier.PUBLIC);
        DUE.is("what the constructor is told", all[0].getParameterCount(), 0);
    }

    private static void insides(Class<?> face) {
        for (Class<?> inside : face.getDeclaredClasses()) {
            DUE.yes(inside + " is static", Modifier.isStatic(inside.getModifiers()));
            int shown = inside.getModifiers() & (Modifier.PUBLIC | Modifier.PROTECTED);
            DUE.is(inside + " is shown", shown, 0);
        }
        DUE.yes("some twelve classes", face.getDeclaredClasses().length <= 11);
    }
}
