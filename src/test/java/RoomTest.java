import java.lang.reflect.Array;
import java.lang.reflect.Field;
import java.lang.reflect.Modifier;
import java.util.IdentityHashMap;
import java.util.Map;

/** All calls of a run live in one room: an object is small, and no call makes it greater or makes rows of its own. */
final class RoomTest {
    private long objects;
    private long elements;

    public static void main(String[] args) throws Exception {
        Check c = new Check("RoomTest");
        DryRiver x = new DryRiver();
        RoomTest before = new RoomTest();
        before.count(x, new IdentityHashMap<>());
        c.is("objects are few: " + before.objects, true, before.objects < 400);
        c.is("fields and elements are few: " + before.elements, true, before.elements < 12000);
        use(x);
        RoomTest after = new RoomTest();
        after.count(x, new IdentityHashMap<>());
        c.is("objects after calls", before.objects, after.objects);
        c.is("fields and elements after calls", before.elements, after.elements);
        c.close();
    }

    private static void use(DryRiver x) {
        Check.town(x, "person 50 purse 99;person 20 purse 9;trusts 1 90;work 1 need 9 gain 1;truth 70;journey 2");
        Check.law(x, "raise 1 if belief<50 and not dry;lower 2 if mean>40 or who<1");
        for (int i = 0; i < 60; i++) {
            x.image();
            x.tell(i % 2);
            x.send(i % 2);
            x.days(9);
            x.must(150, 9);
            x.span(9, true);
            x.guru(9);
            x.undo();
            x.back();
        }
    }

    private void count(Object object, Map<Object, Boolean> seen) throws Exception {
        if (object == null || object instanceof String || seen.put(object, true) != null) {
            return;
        }
        objects++;
        if (object.getClass().isArray()) {
            int length = Array.getLength(object);
            elements += length;
            for (int i = 0; i < length && !object.getClass().getComponentType().isPrimitive(); i++) {
                count(Array.get(object, i), seen);
            }
            return;
        }
        for (Class<?> type = object.getClass(); type != Object.class; type = type.getSuperclass()) {
            for (Field f : type.getDeclaredFields()) {
                if (!Modifier.isStatic(f.getModifiers())) {
                    elements++;
                    f.setAccessible(true);
                    if (!f.getType().isPrimitive()) {
                        count(f.get(object), seen);
                    }
                }
            }
        }
    }
}
