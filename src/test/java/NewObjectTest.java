import java.lang.reflect.Constructor;
import java.lang.reflect.Field;
import java.lang.reflect.Method;
import java.lang.reflect.Modifier;
import java.util.Set;
import java.util.TreeSet;

/** The public face, and promise 1: a new object. */
public final class NewObjectTest {
    private static final Set<String> FACE = Set.of(
        "int command(int,int,int,int)", "int connect(boolean)", "boolean close(int)", "boolean update(int)",
        "int tick(int)", "int deliver(int)", "boolean disturb(int,int)", "boolean alter(int,int,int)",
        "int flying(int)", "int datagram(int,int,int)", "int side(int,int)", "int answer(int,int)",
        "int stored(int)", "int about(int)", "long fold(long,long,long)", "int share(int)");

    public static void main(String[] args) {
        Due due = new Due("NewObjectTest");
        face(due);
        newObject(due);
        seeds(due);
        due.end();
    }

    private static void face(Due due) {
        Class<SealedStore> type = SealedStore.class;
        due.is("NONE", SealedStore.NONE, -1);
        due.is("modifiers", type.getModifiers(), Modifier.PUBLIC | Modifier.FINAL);
        Set<String> methods = new TreeSet<>();
        for (Method method : type.getDeclaredMethods()) {
            if (Modifier.isPrivate(method.getModifiers())) {
                continue;
            }
            due.is("modifiers of " + method, method.getModifiers(), Modifier.PUBLIC);
            StringBuilder text = new StringBuilder(method.getReturnType() + " " + method.getName() + "(");
            for (Class<?> parameter : method.getParameterTypes()) {
                text.append(text.charAt(text.length() - 1) == '(' ? "" : ",").append(parameter);
            }
            methods.add(text.append(')').toString());
        }
        due.is("methods", methods.toString(), new TreeSet<>(FACE).toString());
        int open = 0;
        for (Field field : type.getDeclaredFields()) {
            open += Modifier.isPrivate(field.getModifiers()) ? 0 : 1;
        }
        due.is("fields that can be seen", open, 1);
        Constructor<?>[] made = type.getDeclaredConstructors();
        due.is("constructors", made.length, 1);
        due.is("constructor", made[0].toString(), "public SealedStore(int,int,int)");
        for (Class<?> inside : type.getDeclaredClasses()) {
            due.is(inside + " is static", Modifier.isStatic(inside.getModifiers()), true);
            due.is(inside + " is public", Modifier.isPublic(inside.getModifiers()), false);
        }
    }

    private static void newObject(Due due) {
        Counted x = new Counted(0, -1, Integer.MIN_VALUE);
        for (int side = 0; side < 2; side++) {
            for (int what = 0; what <= 10; what++) {
                due.is("side(" + side + ", " + what + ")", x.side(side, what), what == 3 ? -1 : 0);
            }
            due.is("flying(" + side + ")", x.flying(side), 0);
            due.is("datagram", x.datagram(side, 0, 0), -1);
            due.is("deliver", x.deliver(side), -1);
            due.is("disturb", x.disturb(side, 0), false);
            due.is("alter", x.alter(side, 0, 1), false);
            due.is("close", x.close(side), false);
            due.is("update", x.update(side), false);
        }
        for (int what = 0; what <= 4; what++) {
            due.is("about(" + what + ")", x.about(what), 0);
        }
        for (int key = 0; key < 16; key++) {
            due.is("stored(" + key + ")", x.stored(key), -1);
        }
        due.is("answer(1, 0)", x.answer(1, 0), -1);
        due.is("tick(1)", x.tick(1), 1);
    }

    /** The seeds and the shared key, negative ones too, show in the client's hello. */
    private static void seeds(Due due) {
        int[] values = {0, 1, -1, 77, Integer.MIN_VALUE, Integer.MAX_VALUE};
        for (int seed : values) {
            for (int shared : values) {
                Play play = new Play(seed, 5, shared);
                play.untilClientHello();
                int[] hello = Keys.first(seed, 5, shared).clientHello;
                due.is("hello of " + seed + ", " + shared, play.seen(0, 0),
                    Play.told(1, 2, 0, 0, Reckon.join(Reckon.bytes(22, 14), hello)));
            }
        }
    }
}
