import java.lang.reflect.Constructor;
import java.lang.reflect.Field;
import java.lang.reflect.Method;
import java.lang.reflect.Modifier;
import java.util.TreeSet;

/** Promise 1, and that the face has just what the document shows. */
public final class NewObjectTest {
    private static String face() {
        TreeSet<String> members = new TreeSet<>();
        for (Method method : RescanMill.class.getDeclaredMethods()) {
            if (!Modifier.isPrivate(method.getModifiers()) && !method.isSynthetic()) {
                members.add(method.getName());
            }
        }
        for (Field field : RescanMill.class.getDeclaredFields()) {
            if (!Modifier.isPrivate(field.getModifiers())) {
                members.add(field.getName());
            }
        }
        for (Constructor<?> constructor : RescanMill.class.getDeclaredConstructors()) {
            members.add("new/" + constructor.getParameterCount());
        }
        return members.toString();
    }

    public static void main(String[] args) {
        Desk desk = new Desk();
        Mill mill = new Mill();
        desk.same("size()", mill.size(), 0);
        desk.same("word(0)", mill.word(0), 0);
        for (int what = 0; what < 4; what++) {
            desk.same("told(" + what + ")", mill.told(what), 0);
        }
        desk.same("again(0, 1)", mill.again(0, 1), RescanMill.BAD);
        desk.same("clear()", mill.clear(), 0);
        desk.same("run(1)", mill.run(1), 0);
        desk.same("size() of nothing", mill.size(), 0);
        desk.same("BAD", RescanMill.BAD, -1);
        desk.same("NONE", RescanMill.NONE, -2);
        desk.same("FULL", RescanMill.FULL, -3);
        desk.same("the face", face(), "[BAD, FULL, NONE, again, clear, feed, new/0, run, size, told, word]");

        Mill one = Desk.fed("define(`a',`b')a");
        Mill other = new Mill();
        one.run(100);
        desk.same("told(2) of another object", other.told(2), 0);
        desk.same("clear() of another object", other.clear(), 0);
        desk.end();
    }
}
