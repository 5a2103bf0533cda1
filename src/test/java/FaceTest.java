import java.lang.management.ManagementFactory;
import java.lang.reflect.Constructor;
import java.lang.reflect.Field;
import java.lang.reflect.Method;
import java.lang.reflect.Modifier;
import java.util.Set;
import java.util.TreeSet;

/** The face that the document gives, and the room that calls take. */
final class FaceTest {
    private static final Set<String> METHODS = Set.of(
            "deal(int)", "move(int,int)", "draw()", "freeze(int)", "play(int)", "playAll()", "pile(int,int)",
            "card(int,int)", "where(int,int)", "side(int,int)", "count(int)", "ofMove(int,int)", "best()",
            "ifPlayed(int,int)", "buried(int)", "put(long)", "wipe()", "fault()", "undo()", "save(int)", "restore(int)");
    private static final String[] CONSTANTS = {"NO_SUCH", "BAD_VALUE", "BAD_TEXT", "TOO_MANY", "NOT_POSSIBLE", "NONE"};

    private FaceTest() {
    }

    static void run() {
        Tests.run("the face: constants", FaceTest::constants);
        Tests.run("the face: methods", FaceTest::methods);
        Tests.run("the room: calls make no objects", FaceTest::room);
    }

    private static void constants() {
        Set<String> seen = new TreeSet<>();
        for (Field field : TwinPatience.class.getDeclaredFields()) {
            if (!Modifier.isPrivate(field.getModifiers())) {
                seen.add(field.getName());
            }
        }
        Tests.holds("no other fields: " + seen, seen.equals(new TreeSet<>(Set.of(CONSTANTS))));
        int[] values = {TwinPatience.NO_SUCH, TwinPatience.BAD_VALUE, TwinPatience.BAD_TEXT, TwinPatience.TOO_MANY,
            TwinPatience.NOT_POSSIBLE, TwinPatience.NONE};
        for (int i = 0; i < values.length; i++) {
            Tests.due(CONSTANTS[i], values[i], -1 - i);
        }
    }

    private static void methods() {
        Set<String> seen = new TreeSet<>();
        Set<String> names = new TreeSet<>();
        for (Method method : TwinPatience.class.getDeclaredMethods()) {
            if (Modifier.isPrivate(method.getModifiers())) {
                names.add(method.getName());
                continue;
            }
            StringBuilder shape = new StringBuilder(method.getName()).append('(');
            for (Class<?> type : method.getParameterTypes()) {
                shape.append(shape.toString().endsWith("(") ? "" : ",").append(type.getName());
            }
            seen.add(shape.append(')').toString());
            Tests.holds(method + " returns int", method.getReturnType() == int.class);
            Tests.holds(method + " is public", method.getModifiers() == Modifier.PUBLIC);
        }
        Tests.holds("no other methods: " + seen, seen.equals(new TreeSet<>(METHODS)));
        for (String method : METHODS) {
            Tests.holds("no private " + method, !names.contains(method.substring(0, method.indexOf('('))));
        }
        Constructor<?>[] constructors = TwinPatience.class.getDeclaredConstructors();
        Tests.due("constructors", constructors.length, 1);
        Tests.holds("a public one", Modifier.isPublic(constructors[0].getModifiers()));
        Tests.holds("a final class", Modifier.isFinal(TwinPatience.class.getModifiers()));
        for (Class<?> inner : TwinPatience.class.getDeclaredClasses()) {
            Tests.holds(inner + " is static", Modifier.isStatic(inner.getModifiers()));
            Tests.holds(inner + " is not public", !Modifier.isPublic(inner.getModifiers()));
        }
    }

    private static void room() {
        com.sun.management.ThreadMXBean threads = (com.sun.management.ThreadMXBean) ManagementFactory.getThreadMXBean();
        long least = Long.MAX_VALUE;
        for (int round = 0; round < 3; round++) {
            TwinPatience game = new TwinPatience();
            long before = threads.getCurrentThreadAllocatedBytes();
            useAll(game);
            least = Math.min(least, threads.getCurrentThreadAllocatedBytes() - before);
        }
        Tests.holds("some 500 calls made " + least + " bytes", least < 2000);
    }

    private static void useAll(TwinPatience game) {
        for (int i = 0; i < 20; i++) {
            game.deal(i);
            game.play(30);
            game.save(i % 2);
            game.draw();
            game.freeze(i % 8);
            game.move(game.ofMove(0, 0), game.ofMove(0, 1));
            game.put('d');
            game.fault();
            game.playAll();
            game.put('f');
            game.wipe();
            game.undo();
            game.restore(i % 2);
            game.ifPlayed(200, i % 4);
            game.buried(5 * i);
            game.where(5 * i, 1);
            game.pile(i, 1);
            game.card(i, 0);
            game.side(i % 2, 3);
            game.count(5);
            game.best();
        }
    }
}
