import java.lang.reflect.Constructor;
import java.lang.reflect.Field;
import java.lang.reflect.Method;
import java.lang.reflect.Modifier;
import java.util.Arrays;
import java.util.Set;
import java.util.TreeSet;

/** The public face is the document's, and there is nothing else to be seen of the class. */
public final class FaceTest {
    private static final String[] FACE = {
        "PageDisk(int)",
        "append(int,byte) int NoSuchElementException",
        "at(int,int,int) byte ArrayIndexOutOfBoundsException",
        "cut(int,int) int IllegalArgumentException IllegalStateException",
        "end(int) int NoSuchElementException",
        "file(int) int IllegalArgumentException IllegalStateException",
        "folder(int) int",
        "job(int,int) long IndexOutOfBoundsException",
        "latest(int) int",
        "look(int,int) int IndexOutOfBoundsException",
        "poke(int,int,int) int IndexOutOfBoundsException IllegalArgumentException",
        "row(int,long) int IllegalArgumentException IllegalStateException",
        "size(int,int) int",
        "space(int) int IllegalArgumentException",
        "start() int IllegalStateException",
        "state(int,int) int NoSuchElementException IllegalArgumentException",
        "sync() int IllegalStateException",
        "wrong(int) int IndexOutOfBoundsException",
    };

    private static String names(Class<?>[] classes, String between) {
        String[] names = new String[classes.length];
        for (int i = 0; i < names.length; i++) {
            names[i] = classes[i].getSimpleName();
        }
        return String.join(between, names);
    }

    public static void main(String[] args) {
        Check check = new Check();
        Set<String> due = new TreeSet<>(Arrays.asList(FACE));
        Set<String> face = new TreeSet<>();
        Set<String> hidden = new TreeSet<>();
        Set<String> shown = new TreeSet<>();
        for (Constructor<?> made : PageDisk.class.getDeclaredConstructors()) {
            face.add("PageDisk(" + names(made.getParameterTypes(), ",") + ")");
        }
        for (Method method : PageDisk.class.getDeclaredMethods()) {
            if (Modifier.isPrivate(method.getModifiers())) {
                hidden.add(method.getName());
                continue;
            }
            shown.add(method.getName());
            String thrown = names(method.getExceptionTypes(), " ");
            face.add(method.getName() + "(" + names(method.getParameterTypes(), ",") + ") "
                + method.getReturnType().getSimpleName() + (thrown.isEmpty() ? "" : " " + thrown));
            check.holds(method.getName() + " is public and no static one", Modifier.isPublic(method.getModifiers())
                && !Modifier.isStatic(method.getModifiers()));
        }
        check.holds("the face " + face + " is the document's", face.equals(due));
        hidden.retainAll(shown);
        check.holds("no private method bears a public one's name, as these do: " + hidden, hidden.isEmpty());
        for (Field field : PageDisk.class.getDeclaredFields()) {
            boolean open = !Modifier.isPrivate(field.getModifiers());
            check.holds("the field " + field.getName() + " is private or NONE", !open || field.getName().equals("NONE"));
        }
        check.same("NONE", PageDisk.NONE, -1);
        int modifiers = PageDisk.class.getModifiers();
        check.holds("the class is public and final", Modifier.isPublic(modifiers) && Modifier.isFinal(modifiers));
        check.done();
    }
}
