import java.lang.reflect.Constructor;
import java.lang.reflect.Field;
import java.lang.reflect.Member;
import java.lang.reflect.Method;
import java.lang.reflect.Modifier;
import java.util.Set;
import java.util.TreeSet;

/** The public face: every method of the document with its exceptions, and no other member that is not private. */
public final class FaceTest {
    private static final String[] FACE = {
        "char land(int, int, char, int) IndexOutOfBounds IllegalArgument IllegalState",
        "char harbour(int, int, int, char) IndexOutOfBounds IllegalArgument IllegalState",
        "int pips(int, int, int) IndexOutOfBounds",
        "int touching()",
        "int begin(int, int) IllegalArgument IllegalState UnsupportedOperation",
        "int seed(int) IllegalArgument",
        "char phase()",
        "int turn() IllegalState",
        "int house(int, int, int) IndexOutOfBounds IllegalState UnsupportedOperation",
        "int road(int, int, int) IndexOutOfBounds IllegalState UnsupportedOperation",
        "int town(int, int, int) IndexOutOfBounds IllegalState UnsupportedOperation",
        "int roll() IllegalState",
        "int lose(int, int) IndexOutOfBounds IllegalArgument IllegalState UnsupportedOperation",
        "char thief(int, int, int) IndexOutOfBounds IllegalState UnsupportedOperation",
        "int end() IllegalState",
        "int bank(char, char) IllegalArgument IllegalState UnsupportedOperation",
        "boolean offer(int, int) IllegalArgument IllegalState UnsupportedOperation",
        "int take(int) IndexOutOfBounds IllegalState NoSuchElement UnsupportedOperation",
        "int buy() IllegalState UnsupportedOperation",
        "int play(char, char, char) IllegalArgument IllegalState UnsupportedOperation",
        "int goods(int) IndexOutOfBounds",
        "int has(int, char) IndexOutOfBounds IllegalArgument",
        "int cards(int, char) IndexOutOfBounds IllegalArgument",
        "int points(int, boolean) IndexOutOfBounds",
        "int way(int) IndexOutOfBounds",
        "int title(char) IllegalArgument",
        "boolean mayHouse(int, int, int, int) IndexOutOfBounds",
        "boolean mayRoad(int, int, int, int) IndexOutOfBounds",
        "int at(int, int, int) IndexOutOfBounds",
        "int roadAt(int, int, int) IndexOutOfBounds",
        "int left(char) IllegalArgument",
        "int rate(int, char) IndexOutOfBounds IllegalArgument",
        "int expects(int, char) IndexOutOfBounds IllegalArgument",
        "int advise(char) IllegalArgument IllegalState NoSuchElement",
        "int thiefAt() IllegalState",
        "int rating(int) IndexOutOfBounds",
        "float landShare()",
        "double meanPoints() Arithmetic",
        "long checksum()",
        "boolean isTrue()",
    };

    public static void main(String[] args) {
        Class<?> isle = HexhavenIsle.class;
        Due.due(Modifier.PUBLIC | Modifier.FINAL, isle::getModifiers);
        Set<String> told = new TreeSet<>();
        Set<String> hidden = new TreeSet<>();
        for (Method method : isle.getDeclaredMethods()) {
            if (!method.isSynthetic()) {
                (isOpen(method) ? told : hidden).add(isOpen(method) ? tell(method) : method.getName());
            }
        }
        Due.due(new TreeSet<>(Set.of(FACE)), () -> told);
        for (String line : FACE) {
            String name = line.substring(line.indexOf(' ') + 1, line.indexOf('('));
            Due.due(false, () -> hidden.contains(name));
        }
        for (Field field : isle.getDeclaredFields()) {
            Due.due(false, () -> isOpen(field));
        }
        Constructor<?>[] made = isle.getDeclaredConstructors();
        Due.due(1, () -> made.length);
        Due.due("public HexhavenIsle()", made[0]::toString);
        for (Class<?> inside : isle.getDeclaredClasses()) {
            Due.due(true, () -> Modifier.isStatic(inside.getModifiers()) && !Modifier.isPublic(inside.getModifiers()));
        }
        Due.finish();
    }

    private static boolean isOpen(Member member) {
        return !Modifier.isPrivate(member.getModifiers());
    }

    private static String tell(Method method) {
        StringBuilder line = new StringBuilder(method.getReturnType().getName());
        line.append(' ').append(method.getName()).append('(');
        for (Class<?> type : method.getParameterTypes()) {
            line.append(line.charAt(line.length() - 1) == '(' ? "" : ", ").append(type.getName());
        }
        line.append(')');
        for (Class<?> type : method.getExceptionTypes()) {
            line.append(' ').append(type.getSimpleName().replace("Exception", ""));
        }
        return line.toString();
    }
}
