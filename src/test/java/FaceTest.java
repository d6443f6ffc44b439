import java.lang.reflect.Constructor;
import java.lang.reflect.Field;
import java.lang.reflect.Method;
import java.lang.reflect.Modifier;
import java.util.NoSuchElementException;
import java.util.TreeSet;

/** The public face, the constants, and promise 1: a new object. */
public final class FaceTest {
    private static final String FACE =
        "[CUT int, FOR int, HEAD int, SHAPE int, SPOILED int, SealedFiles(), "
        + "address(int) int, alter(int, int) int, at(int) int, clear() int, count(int) int, cut(int) boolean, "
        + "key(int) int, load() int, open(int) int, pieces() int, print(int) int, put(int) boolean, "
        + "read(int) int, seal(int, int, int) int, write(char) boolean]";

    public static void main(String[] args) {
        Check check = new Check();
        check.compare("the members that are not private", FACE, visibleMembers());
        check.due("final", true, () -> Modifier.isFinal(SealedFiles.class.getModifiers()));
        constants(check);
        newObject(check);
        twoObjects(check);
        check.finish();
    }

    private static String visibleMembers() {
        TreeSet<String> members = new TreeSet<>();
        for (Field field : SealedFiles.class.getDeclaredFields()) {
            if (!Modifier.isPrivate(field.getModifiers())) {
                members.add(field.getName() + " " + field.getType());
            }
        }
        for (Method method : SealedFiles.class.getDeclaredMethods()) {
            if (!Modifier.isPrivate(method.getModifiers())) {
                members.add(method.getName() + types(method.getParameterTypes()) + " " + method.getReturnType());
            }
        }
        for (Constructor<?> constructor : SealedFiles.class.getDeclaredConstructors()) {
            if (!Modifier.isPrivate(constructor.getModifiers())) {
                members.add(constructor.getName() + types(constructor.getParameterTypes()));
            }
        }
        return members.toString();
    }

    private static String types(Class<?>[] parameters) {
        StringBuilder text = new StringBuilder("(");
        for (Class<?> parameter : parameters) {
            text.append(text.length() == 1 ? "" : ", ").append(parameter);
        }
        return text.append(")").toString();
    }

    private static void constants(Check check) {
        check.due("SHAPE", -1, () -> SealedFiles.SHAPE);
        check.due("FOR", -2, () -> SealedFiles.FOR);
        check.due("HEAD", -3, () -> SealedFiles.HEAD);
        check.due("SPOILED", -4, () -> SealedFiles.SPOILED);
        check.due("CUT", -5, () -> SealedFiles.CUT);
    }

    private static void newObject(Check check) {
        SealedFiles x = new SealedFiles();
        check.due("new: count(0)", 0, () -> x.count(0));
        check.due("new: count(1)", 0, () -> x.count(1));
        check.due("new: count(2)", 0, () -> x.count(2));
        check.due("new: pieces()", 0, x::pieces);
        check.due("new: address(0)", -1, () -> x.address(0));
        check.due("new: at(0)", -1, () -> x.at(0));
        check.due("new: print(0)", -1, () -> x.print(0));
        check.due("new: cut(0)", false, () -> x.cut(0));
        check.due("new: clear()", 0, x::clear);
        check.refused("new: read(0)", NoSuchElementException.class, () -> x.read(0));
        check.refused("new: alter(0, 1)", NoSuchElementException.class, () -> x.alter(0, 1));
        check.refused("new: open(0)", IllegalArgumentException.class, () -> x.open(0));
        check.refused("new: seal(1, 1, 1)", IllegalArgumentException.class, () -> x.seal(1, 1, 1));
        check.due("new: load() of an empty draft", 0, x::load);
    }

    private static void twoObjects(Check check) {
        SealedFiles used = new SealedFiles();
        used.key(2);
        used.put(1);
        used.seal(1, 2, 3);
        used.write('A');
        used.open(0);
        SealedFiles other = new SealedFiles();
        check.due("another object: count(0)", 0, () -> other.count(0));
        check.due("another object: count(1)", 0, () -> other.count(1));
        check.due("another object: count(2)", 0, () -> other.count(2));
        check.due("another object: pieces()", 0, other::pieces);
        check.due("another object: load()", 0, other::load);
    }
}
