import java.lang.reflect.Array;
import java.lang.reflect.Field;
import java.lang.reflect.Modifier;
import java.util.IdentityHashMap;
import java.util.Map;

/** What it is: an object's 512 calls, the dearest ones, in the room that it took when it was made. */
public final class Life512CallsTest {
    private static final long LARGEST = 0x7fefffffffffffffL;
    private static final int CALLS = 512;

    public static void main(String[] args) {
        Desk test = new Desk();
        test.check(Life512CallsTest::everyRunAnswersTheSame);
        test.check(Life512CallsTest::everyCallIsRefused);
        test.check(Life512CallsTest::clearedAgainAndAgain);
        test.check(Life512CallsTest::noMoreRoomThanAtFirst);
        test.end();
    }

    private static void everyRunAnswersTheSame(Desk test) {
        test.sentence("An object is used for at most 512 calls after it has been made");
        FormatDesk desk = Desk.desk("%.17e".repeat(60) + "%d".repeat(20));
        for (int i = 0; i < 60; i++) {
            desk.argument(i % 2 == 0 ? LARGEST : 1);
        }
        String two = "1.79769313486231571e+3084.94065645841246544e-324";
        String due = two.repeat(30) + "0".repeat(20);
        for (int call = 43 + 60 + 1; call <= CALLS; call += 2) {
            test.same("run() as call " + call, desk.run(), due.length());
            int k = call % (due.length() / 8);
            test.same("letters(" + k + ") as call " + (call + 1), desk.letters(k), Desk.packed(due.substring(8 * k)));
        }
    }

    private static void everyCallIsRefused(Desk test) {
        test.sentence("An object is used for at most 512 calls after it has been made");
        FormatDesk desk = Desk.desk("%200d".repeat(20) + "%");
        for (int call = 14; call < CALLS; call += 3) {
            test.fails("run() as call " + call, IllegalArgumentException.class, () -> desk.run());
            test.same("wrong() as call " + (call + 1), desk.wrong(), 101);
            test.fails("letters(0) as call " + (call + 2), IndexOutOfBoundsException.class, () -> desk.letters(0));
        }
        FormatDesk tooMany = Desk.desk("%200d".repeat(20) + "|");
        for (int call = 14; call < CALLS; call += 2) {
            test.fails("run() as call " + call, UnsupportedOperationException.class, () -> tooMany.run());
            test.same("count(4) as call " + (call + 1), tooMany.count(4), 0);
        }
    }

    private static void clearedAgainAndAgain(Desk test) {
        test.sentence("An object is used for at most 512 calls after it has been made");
        FormatDesk desk = new FormatDesk();
        for (int round = 0; round < 85; round++) {
            desk.clear();
            test.same("text()", desk.text(Desk.packed("%05.1f|a")), 8);
            test.same("argument()", desk.argument(Double.doubleToRawLongBits(round)), 1);
            test.same("run()", desk.run(), 7);
            test.same("letters(0)", desk.letters(0), Desk.packed(String.format("%03d.0|a", round)));
            test.same("count(2)", desk.count(2), 1);
        }
    }

    private static void noMoreRoomThanAtFirst(Desk test) {
        test.sentence("An object is used for at most 512 calls after it has been made");
        FormatDesk desk = new FormatDesk();
        int before = room(desk, new IdentityHashMap<>());
        Desk.write(desk, "%.200f".repeat(7) + "%.200g%.200e%.200a%d%x");
        for (int i = 0; i < 60; i++) {
            desk.argument(i % 3 == 0 ? LARGEST : i);
        }
        for (int call = 70; call < CALLS; call++) {
            desk.run();
        }
        test.same("fields and elements", room(desk, new IdentityHashMap<>()), before);
        test.same("they are few", before < 10000, true);
    }

    /** How many fields and elements there are in all objects that this one holds. */
    private static int room(Object object, Map<Object, Object> seen) {
        if (object == null || seen.put(object, object) != null) {
            return 0;
        }
        if (object.getClass().isArray()) {
            return Array.getLength(object);
        }
        int room = 0;
        for (Field field : object.getClass().getDeclaredFields()) {
            if (!Modifier.isStatic(field.getModifiers())) {
                room += 1 + (field.getType().isPrimitive() ? 0 : room(held(object, field), seen));
            }
        }
        return room;
    }

    private static Object held(Object object, Field field) {
        try {
            field.setAccessible(true);
            return field.get(object);
        } catch (IllegalAccessException e) {
            throw new IllegalStateException(e);
        }
    }
}
