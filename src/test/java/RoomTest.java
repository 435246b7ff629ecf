import java.lang.reflect.Array;
import java.lang.reflect.Field;
import java.lang.reflect.Modifier;
import java.util.ArrayList;
import java.util.Collections;
import java.util.IdentityHashMap;
import java.util.List;
import java.util.Set;

/**
 * The room of one run: 600,000 objects and 7.3 million fields and elements. The constructor is the
 * dearest call, so 512 objects must fit in; and no other call may make a part of the object anew.
 */
public final class RoomTest {
    private static final int CALLS = 512;

    private final Set<Object> objects = Collections.newSetFromMap(new IdentityHashMap<>());
    private long places;

    private RoomTest(Object whole) throws IllegalAccessException {
        List<Object> open = new ArrayList<>();
        open.add(whole);
        while (!open.isEmpty()) {
            Object o = open.remove(open.size() - 1);
            if (o != null && objects.add(o)) {
                look(o, open);
            }
        }
    }

    public static void main(String[] args) throws IllegalAccessException {
        OrielChart x = Check.chart("");
        RoomTest before = new RoomTest(x);
        Check.same("512 objects fit in", before.objects.size() * (long) CALLS < 600_000, true);
        Check.same("their fields fit in", before.places * CALLS < 7_300_000, true);

        for (int i = 0; i < 40; i++) {
            x.insert(i, 1, 0);
        }
        for (int i = 0; i < 40; i++) {
            x.setTarget(i, i < 20 ? 39 : 0);
            x.setUse(i, i % 8, i);
        }
        x.digest();
        x.sweep(20);
        x.wouldCross(20);
        RoomTest after = new RoomTest(x);
        Check.same("no part is made anew", after.objects.equals(before.objects), true);
        Check.same("no part grows", after.places, before.places);
        Check.finish();
    }

    private void look(Object o, List<Object> open) throws IllegalAccessException {
        if (o.getClass().isArray()) {
            places += Array.getLength(o);
            if (o instanceof Object[]) {
                open.addAll(List.of((Object[]) o));
            }
            return;
        }
        for (Field f : o.getClass().getDeclaredFields()) {
            if (!Modifier.isStatic(f.getModifiers())) {
                places++;
                f.setAccessible(true);
                if (!f.getType().isPrimitive()) {
                    open.add(f.get(o));
                }
            }
        }
    }
}
