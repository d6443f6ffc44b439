import java.lang.reflect.Constructor;
import java.lang.reflect.Executable;
import java.lang.reflect.Field;
import java.lang.reflect.Method;
import java.lang.reflect.Modifier;
import java.util.NoSuchElementException;
import java.util.TreeSet;

/** The public face, the constants, and promise 1: a new object. */
public final class FaceTest {
    private static final String FACE =
        "[CUT int, FOR int, HEAD int, SHAPE int, SPOILED int, SealedFiles(), "
        + "address(int) int, alter(int, int) int NoSuchElementException, at(int) int, clear() int, "
        + "count(int) int, cut(int) boolean, "
        + "key(int) int IllegalArgumentException IllegalStateException, load() int IllegalArgumentException, "
        + "open(int) int IllegalArgumentException, pieces() int, print(int) int, put(int) boolean, "
        + "read(int) int NoSuchElementException, seal(int, int, int) int IllegalArgumentException, "
        + "write(char) boolean]";

    private static final Check check = new Check();

    public static void main(String[] args) {
        check.each(
            FaceTest::members,
            FaceTest::constants,
            FaceTest::noKeys,
            FaceTest::noKeysToSealFor,
            FaceTest::emptyMessage,
            FaceTest::emptyMessageToSeal,
            FaceTest::emptyFile,
            FaceTest::emptyFileToOpen,
            FaceTest::emptyDraft,
            FaceTest::objectsShareNothing);
        check.finish();
    }

    private static void members() {
        check.sentence("The public face");
        check.compare("the members that are not private", FACE, visibleMembers());
        check.due("public and final", Modifier.PUBLIC | Modifier.FINAL, () -> SealedFiles.class.getModifiers());
        for (Class<?> inside : SealedFiles.class.getDeclaredClasses()) {
            int modifiers = inside.getModifiers();
            check.due(inside + " is static", true, () -> Modifier.isStatic(modifiers));
            check.due(inside + " is public or protected", false,
                () -> Modifier.isPublic(modifiers) || Modifier.isProtected(modifiers));
        }
    }

    private static String visibleMembers() {
        TreeSet<String> members = new TreeSet<>();
        for (Field field : SealedFiles.class.getDeclaredFields()) {
            if (!Modifier.isPrivate(field.getModifiers())) {
                members.add(field.getName() + " " + field.getType());
            }
        }
        for (Method method : SealedFiles.class.getDeclaredMethods()) {
            if (!Modifier.isPrivate(method.getModifiers())) {
                members.add(method.getName() + parameters(method) + " " + method.getReturnType() + thrown(method));
            }
        }
        for (Constructor<?> constructor : SealedFiles.class.getDeclaredConstructors()) {
            if (!Modifier.isPrivate(constructor.getModifiers())) {
                members.add(constructor.getName() + parameters(constructor) + thrown(constructor));
            }
        }
        return members.toString();
    }

    private static String parameters(Executable member) {
        StringBuilder text = new StringBuilder("(");
        for (Class<?> parameter : member.getParameterTypes()) {
            text.append(text.length() == 1 ? "" : ", ").append(parameter);
        }
        return text.append(")").toString();
    }

    private static String thrown(Executable member) {
        TreeSet<String> names = new TreeSet<>();
        for (Class<?> exception : member.getExceptionTypes()) {
            names.add(" " + exception.getSimpleName());
        }
        return String.join("", names);
    }

    private static void constants() {
        check.sentence("The constants");
        check.due("SHAPE", -1, () -> SealedFiles.SHAPE);
        check.due("FOR", -2, () -> SealedFiles.FOR);
        check.due("HEAD", -3, () -> SealedFiles.HEAD);
        check.due("SPOILED", -4, () -> SealedFiles.SPOILED);
        check.due("CUT", -5, () -> SealedFiles.CUT);
    }

    private static void noKeys() {
        check.sentence("Promise 1: No keys");
        SealedFiles x = new SealedFiles();
        check.due("new: count(2)", 0, () -> x.count(2));
        check.due("new: address(0)", -1, () -> x.address(0));
        check.refused("new: open(0)", IllegalArgumentException.class, () -> x.open(0));
        check.due("new: the first key(7)", 0, () -> x.key(7));
    }

    private static void noKeysToSealFor() {
        check.sentence("Promise 1: No keys (none to seal for)");
        SealedFiles x = new SealedFiles();
        for (int who = 0; who < 16; who++) {
            int keys = who;
            check.refused("new: seal(" + keys + ", 1, 1)", IllegalArgumentException.class, () -> x.seal(keys, 1, 1));
        }
    }

    private static void emptyMessage() {
        check.sentence("Promise 1: an empty message");
        SealedFiles x = new SealedFiles();
        check.due("new: count(0)", 0, () -> x.count(0));
        check.refused("new: read(0)", NoSuchElementException.class, () -> x.read(0));
        check.due("new: clear()", 0, x::clear);
        check.due("new: pieces()", 0, x::pieces);
    }

    private static void emptyMessageToSeal() {
        check.sentence("Promise 1: an empty message (as it is sealed)");
        SealedFiles x = new SealedFiles();
        x.key(2);
        check.due("new: seal(1, 5, 6)", 14, () -> x.seal(1, 5, 6));
        check.due("new: open(0) of that", 0, () -> x.open(0));
    }

    private static void emptyFile() {
        check.sentence("Promise 1: an empty file");
        SealedFiles x = new SealedFiles();
        check.due("new: count(1)", 0, () -> x.count(1));
        check.due("new: at(0)", -1, () -> x.at(0));
        check.due("new: print(0)", -1, () -> x.print(0));
        check.due("new: cut(0)", false, () -> x.cut(0));
        check.refused("new: alter(0, 1)", NoSuchElementException.class, () -> x.alter(0, 1));
    }

    private static void emptyFileToOpen() {
        check.sentence("Promise 1: an empty file (as it is opened)");
        SealedFiles x = new SealedFiles();
        x.key(2);
        check.due("new: open(0)", SealedFiles.SHAPE, () -> x.open(0));
    }

    private static void emptyDraft() {
        check.sentence("Promise 1: a new object has no draft yet");
        SealedFiles x = new SealedFiles();
        check.due("new: load()", 0, x::load);
        check.due("new: count(1) then", 0, () -> x.count(1));
    }

    private static void objectsShareNothing() {
        check.sentence("Promise 1: a new object beside a used one");
        SealedFiles used = new SealedFiles();
        used.key(2);
        used.put(1);
        used.seal(1, 2, 3);
        used.write('A');
        used.open(0);
        SealedFiles other = new SealedFiles();
        check.due("another object: count(0)", 0, () -> other.count(0));
        check.due("another object: count(1)", 0, () -> other.count(1));
        check.due("another object: count(2)", 0, () -> other.count(2));
        check.due("another object: pieces()", 0, other::pieces);
        check.due("another object: load()", 0, other::load);
        other.key(9);
        other.cut(0);
        check.due("the used object: count(1)", 15, () -> used.count(1));
        check.due("the used object: address(0)", 4, () -> used.address(0));
        check.refused("the used object: load() of one A", IllegalArgumentException.class, used::load);
    }
}
