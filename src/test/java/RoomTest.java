import java.io.IOException;
import java.lang.reflect.Array;
import java.lang.reflect.Field;
import java.lang.reflect.Modifier;
import java.nio.file.Files;
import java.nio.file.Path;
import java.util.ArrayDeque;
import java.util.Collections;
import java.util.Deque;
import java.util.IdentityHashMap;
import java.util.Locale;
import java.util.Set;

/** What an object holds: as much as README.md says, and the same things behind 512 calls as before them. */
public final class RoomTest {
    public static void main(String[] args) throws IOException, IllegalAccessException {
        WindBoxes x = new WindBoxes();
        Room before = new Room(x);
        String size = String.format(Locale.ROOT, "a WindBoxes is %d objects and arrays with %,d fields and elements",
            before.things.size(), before.places);
        Due.holds("README.md tells: " + size, readme().contains(size));
        Due.holds("a thousand such have room", before.things.size() <= 600 && before.places <= 7300);
        int calls = fillUp(x);
        Due.same("calls", calls, 512);
        Room after = new Room(x);
        Due.holds("the same objects and arrays", after.things.equals(before.things));
        Due.same("fields and elements behind the calls", after.places, before.places);
        Due.end();
    }

    private static String readme() throws IOException {
        return Files.readString(Path.of("README.md")).replaceAll("\\s+", " ");
    }

    private static int fillUp(WindBoxes x) {
        int calls = 0;
        for (int i = 0; calls < 512; i++) {
            x.wind(i % 24, i % 100);
            x.sheet(i % 4, i % 2, 24);
            x.item(i % 4, i % 2, i % 24, 30000);
            x.source(i % 3, i % 9, i % 4, i % 2);
            x.lose(i % 4, i % 5 == 0);
            x.hours(50, i % 1001);
            x.watch(i % 4, true);
            x.law(100, 3);
            x.cheapest(i % 4);
            x.rank(i % 4, 5);
            x.rolling(i % 4, 24);
            x.mean(i % 4);
            x.change();
            x.total(i % 3, 4);
            x.door(i % 4, i % 9);
            x.drop(i % 4);
            calls += 16;
        }
        return calls;
    }

    private static final class Room {
        final Set<Object> things = Collections.newSetFromMap(new IdentityHashMap<>());
        int places = 0;
        private final Deque<Object> open = new ArrayDeque<>();

        Room(Object root) throws IllegalAccessException {
            meet(root);
            while (!open.isEmpty()) {
                Object thing = open.remove();
                if (thing.getClass().isArray()) {
                    elements(thing);
                } else {
                    fields(thing);
                }
            }
        }

        private void meet(Object thing) {
            if (thing != null && things.add(thing)) {
                open.add(thing);
            }
        }

        private void elements(Object row) {
            places += Array.getLength(row);
            for (int i = 0; i < Array.getLength(row) && !row.getClass().getComponentType().isPrimitive(); i++) {
                meet(Array.get(row, i));
            }
        }

        private void fields(Object thing) throws IllegalAccessException {
            for (Field f : thing.getClass().getDeclaredFields()) {
                if (!Modifier.isStatic(f.getModifiers())) {
                    places++;
                    f.setAccessible(true);
                    meet(f.getType().isPrimitive() ? null : f.get(thing));
                }
            }
        }
    }
}
