import java.io.IOException;
import java.lang.reflect.Array;
import java.lang.reflect.Field;
import java.lang.reflect.Modifier;
import java.nio.file.Files;
import java.nio.file.Path;
import java.util.Collections;
import java.util.IdentityHashMap;
import java.util.Set;

/** What an object takes of the room in which all runs live: little, all of it made with the object. */
public final class RoomTest {
    private static final int MOST_OBJECTS = 100;
    private static final int MOST_PLACES = 7000;

    private final Set<Object> seen = Collections.newSetFromMap(new IdentityHashMap<>());
    private int places = 0;

    public static void main(String[] args) throws IOException, IllegalAccessException {
        Check check = new Check();
        HookBoard board = new HookBoard();
        RoomTest fresh = new RoomTest();
        fresh.walk(board);
        check.due("objects and arrays are few: " + fresh.seen.size(), fresh.seen.size() <= MOST_OBJECTS, true);
        check.due("fields and elements are few: " + fresh.places, fresh.places <= MOST_PLACES, true);
        use(board);
        RoomTest used = new RoomTest();
        used.walk(board);
        check.due("objects and arrays after many calls", used.seen.size(), fresh.seen.size());
        check.due("fields and elements after many calls", used.places, fresh.places);
        check.due("what the same arrays are", used.seen.containsAll(fresh.seen), true);
        check.due("makings outside of a constructor", madeLater(), 0);
        check.finish();
    }

    private void walk(Object thing) throws IllegalAccessException {
        if (thing == null || !seen.add(thing)) {
            return;
        }
        if (thing.getClass().isArray()) {
            places += Array.getLength(thing);
            return;
        }
        for (Field field : thing.getClass().getDeclaredFields()) {
            if (!Modifier.isStatic(field.getModifiers())) {
                places++;
                if (!field.getType().isPrimitive()) {
                    field.setAccessible(true);
                    walk(field.get(thing));
                }
            }
        }
    }

    /** Each call of the face once or more, with a full board, full ACTS and full PATCHES. */
    private static void use(HookBoard board) {
        Check.text(board, "kind a stiff 5 opens 9 tires 9 tears 9; catch 900 - row when is a; lint 1 when all; x", 8, 8);
        Check.text(board, "kind a stiff 5 opens 9 tires 9 tears 9; catch 900 - row when is a; lint 1 when all;", 8, 8);
        for (int cell = 0; cell < 50; cell++) {
            board.hook(cell, 0, cell);
            board.loops(cell, 9);
        }
        for (int n = 0; n < 16; n++) {
            board.rounds(10, n, n, n);
        }
        board.wash();
        board.annul(7);
        board.as(110);
        board.table(1, 2);
        board.sure(500);
        board.draw(1, 2, 3);
        board.pull();
        board.hung(100);
        board.peel(true, 0x1234);
        board.cell(3, 2);
        board.as(-1);
        board.until(board.list(3));
        for (int n = 0; n < 12; n++) {
            board.patch(n, n + 1, n + 1);
            board.force(n, 3);
        }
        board.choose(9, 20000);
        board.found(50, 25, 25, 3, true);
        board.tests(50, 25, 999);
        board.all(4);
    }

    /** Lines with a new that are no field's initialiser and stand outside of HookBoard(). */
    private static long madeLater() throws IOException {
        String code = Files.readString(Path.of("src/main/java/HookBoard.java"))
            .replaceAll("(?s)/\\*.*?\\*/", "").replaceAll("//[^\n]*", "");
        int from = code.indexOf("public HookBoard()");
        String rest = code.substring(0, from) + code.substring(code.indexOf("\n    }\n", from));
        return rest.lines().filter(l -> l.matches(".*\\bnew\\b.*"))
            .filter(l -> !l.matches(" +final \\S+ \\w+ = new [^;]*;")).count();
    }
}
