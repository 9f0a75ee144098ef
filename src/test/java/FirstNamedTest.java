import java.util.function.Consumer;

/**
 * "Where several exceptions that a call names fit, the one named first is thrown": the five calls that name two, in
 * states where both fit, and next to them where only the one named second fits.
 */
public final class FirstNamedTest {
    private static final int[] FAR = {Integer.MIN_VALUE, -1, Integer.MAX_VALUE};
    private static final Class<IndexOutOfBoundsException> INDEX = IndexOutOfBoundsException.class;
    private static final Class<IllegalArgumentException> ARGUMENT = IllegalArgumentException.class;
    private static final Class<IllegalStateException> STATE = IllegalStateException.class;
    private static final Check check = new Check();

    public static void main(String[] args) {
        check.sentence("where several exceptions that a call names fit, the one named first is thrown");
        feed();
        alter();
        item();
        seal();
        open();
        check.end();
    }

    private static void throwing(String what, Known known, Class<? extends RuntimeException> due,
            Consumer<SealingDesk> call) {
        check.throwing(what, due, () -> call.accept(known.desk));
        known.check(check, what);
    }

    private static void feed() {
        for (int input : new int[] {84, 85, 86, 87, 88}) {
            for (int n : new int[] {5, 6, 100, Integer.MAX_VALUE - 87, Integer.MAX_VALUE}) {
                throwing(n + " bytes more behind " + input, Known.desk(0, input, 0), ARGUMENT, desk -> desk.feed(1, n));
            }
        }
        throwing("4 bytes more behind 85", Known.desk(0, 85, 0), STATE, desk -> desk.feed(1, 4));
        throwing("1 byte more behind 88", Known.desk(0, 88, 0), STATE, desk -> desk.feed(1, 1));
    }

    private static void alter() {
        for (int b : new int[] {Integer.MIN_VALUE, -1, 256, Integer.MAX_VALUE}) {
            for (int input : new int[] {0, 9, 88}) {
                throwing("alter behind the end", Known.desk(0, input, 0), INDEX, desk -> desk.alter(input, b));
                for (int k : FAR) {
                    throwing("alter at " + k, Known.desk(0, input, 0), INDEX, desk -> desk.alter(k, b));
                }
            }
            throwing("alter of the last one to " + b, Known.desk(0, 9, 0), ARGUMENT, desk -> desk.alter(8, b));
        }
    }

    private static void item() {
        throwing("a sixth item of 41", Known.desk(5, 41, 0), ARGUMENT, SealingDesk::item);
        throwing("a sixth item of 88", Known.desk(5, 88, 0), ARGUMENT, SealingDesk::item);
        throwing("a sixth item of 40", Known.desk(5, 40, 0), STATE, SealingDesk::item);
    }

    private static void seal() {
        for (int input : new int[] {0, 65, 88}) {
            throwing("seal in way 3 of " + input, Known.desk(0, input, 0), INDEX, desk -> desk.seal(3));
            for (int way : FAR) {
                throwing("seal in way " + way, Known.desk(0, input, 0), INDEX, desk -> desk.seal(way));
            }
        }
        throwing("seal in way 2 of 65", Known.desk(0, 65, 0), ARGUMENT, desk -> desk.seal(2));
    }

    private static void open() {
        for (int input : new int[] {0, 15, 81, 88}) {
            throwing("open in way 3 of " + input, Known.desk(0, input, 0), INDEX, desk -> desk.open(3));
            for (int way : FAR) {
                throwing("open in way " + way, Known.desk(0, input, 0), INDEX, desk -> desk.open(way));
            }
        }
        throwing("open in way 2 of 81", Known.desk(0, 81, 0), ARGUMENT, desk -> desk.open(2));
    }
}
