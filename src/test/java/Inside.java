import java.lang.reflect.Array;
import java.lang.reflect.Field;
import java.lang.reflect.Modifier;
import java.util.ArrayDeque;
import java.util.ArrayList;
import java.util.Collections;
import java.util.Deque;
import java.util.IdentityHashMap;
import java.util.List;
import java.util.Set;
import java.util.function.Supplier;

/**
 * Writes into a datagram on the way what no call can write there: its connection, kind, number or
 * bits. Some sentences of the document tell of datagrams that neither side ever sends, so nothing
 * else can show that they hold. How an object holds its datagrams is free, so no name is known
 * here: the place is the one whose change, on a second object with the same calls, changes what
 * datagram answers.
 */
final class Inside {
    static final int CONNECTION = 0;
    static final int KIND = 1;
    static final int NUMBER = 2;
    static final int BITS = 3;

    private static final int[] PROBES = {91, 37};

    private Inside() {
    }

    /** A scene with one of its first datagram's numbers changed; null, and a word about it, if its place is not found. */
    static Play changed(Supplier<Play> scene, int direction, int what, int value) {
        List<Object> path = find(scene.get().x.bare(), direction, what);
        if (path == null) {
            System.out.println("left out: no place found for what " + what + " of a datagram");
            return null;
        }
        Play play = scene.get();
        set(play.x.bare(), path, value);
        return play;
    }

    /** Fields and indexes, from the object to the place. */
    private static List<Object> find(SealedStore store, int direction, int what) {
        Set<Object> seen = Collections.newSetFromMap(new IdentityHashMap<>());
        Deque<List<Object>> open = new ArrayDeque<>();
        open.add(new ArrayList<>());
        while (!open.isEmpty()) {
            List<Object> path = open.remove();
            Object holder = follow(store, path, path.size());
            if (holder == null || !seen.add(holder)) {
                continue;
            }
            for (Object step : steps(holder)) {
                List<Object> next = new ArrayList<>(path);
                next.add(step);
                Object value = follow(store, next, next.size());
                if (value instanceof Integer && isPlace(store, next, direction, what)) {
                    return next;
                }
                if (value != null && (value.getClass().isArray() || value.getClass().getName().startsWith("SealedStore"))) {
                    open.add(next);
                }
            }
        }
        return null;
    }

    private static List<Object> steps(Object holder) {
        List<Object> steps = new ArrayList<>();
        if (holder.getClass().isArray()) {
            for (int i = 0; i < Array.getLength(holder); i++) {
                steps.add(i);
            }
            return steps;
        }
        for (Class<?> type = holder.getClass(); type != Object.class; type = type.getSuperclass()) {
            for (Field field : type.getDeclaredFields()) {
                boolean fixed = field.getType().isPrimitive() && Modifier.isFinal(field.getModifiers());
                if (!Modifier.isStatic(field.getModifiers()) && !fixed) {
                    field.setAccessible(true);
                    steps.add(field);
                }
            }
        }
        return steps;
    }

    private static boolean isPlace(SealedStore store, List<Object> path, int direction, int what) {
        int before = (Integer) follow(store, path, path.size());
        boolean follows = before == store.datagram(direction, 0, what);
        for (int probe : PROBES) {
            set(store, path, probe);
            follows = follows && ask(store, direction, what) == probe;
        }
        set(store, path, before);
        return follows;
    }

    /** A probe in another place may leave an object that cannot answer. */
    private static int ask(SealedStore store, int direction, int what) {
        try {
            return store.datagram(direction, 0, what);
        } catch (RuntimeException e) {
            return SealedStore.NONE;
        }
    }

    private static Object follow(Object from, List<Object> path, int steps) {
        Object at = from;
        for (int i = 0; i < steps && at != null; i++) {
            at = get(at, path.get(i));
        }
        return at;
    }

    private static Object get(Object holder, Object step) {
        try {
            return step instanceof Field field ? field.get(holder) : Array.get(holder, (Integer) step);
        } catch (IllegalAccessException e) {
            throw new IllegalStateException(e);
        }
    }

    private static void set(Object from, List<Object> path, int value) {
        Object holder = follow(from, path, path.size() - 1);
        Object step = path.get(path.size() - 1);
        try {
            if (step instanceof Field field) {
                field.setInt(holder, value);
            } else {
                Array.setInt(holder, (Integer) step, value);
            }
        } catch (IllegalAccessException e) {
            throw new IllegalStateException(e);
        }
    }
}
