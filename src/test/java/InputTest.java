import java.util.Arrays;

/** Promises 1 to 5: a new object, key, feed, drop, alter. The input is seen by its mark. */
public final class InputTest {
    private static final byte[] ZERO = new byte[16];
    private static final Check check = new Check();

    public static void main(String[] args) {
        newObject();
        keys();
        feeding();
        fullInput();
        dropping();
        altering();
        check.end();
    }

    private static void inputIs(String what, SealingDesk desk, byte[] key, byte[] input) {
        desk.mark(false);
        check.outputIs(what, desk, Reference.mark(key, input));
    }

    private static void newObject() {
        SealingDesk desk = new SealingDesk();
        check.same("size of a new object", desk.size(), 0);
        check.throwing("at(0) of a new object", IndexOutOfBoundsException.class, () -> desk.at(0));
        check.same("items of a new object", desk.forget(), 0);
        check.same("take of a new object", desk.take(), 0);
        check.same("first feed of a new object", desk.feed(7, 1), 1);
        SealingDesk other = new SealingDesk();
        inputIs("mark of a new object", other, ZERO, new byte[0]);
        Check.setInput(other, Check.some(20));
        other.seal(0);
        check.outputIs("both keys are 0", other,
                Reference.sealMarked(ZERO, ZERO, Arrays.asList(), Check.some(20)));
    }

    private static void keys() {
        byte[] key0 = Check.bytes("80000000 7fffffff ff00ff00 01020304");
        byte[] key1 = Check.bytes("a1b2c3d4 e5f60718 293a4b5c 6d7e8f90");
        SealingDesk desk = Check.deskWith(key0, key1);
        Check.setInput(desk, Check.some(33));
        desk.seal(0);
        byte[] due = Reference.sealMarked(key0, key1, Arrays.asList(), Check.some(33));
        check.outputIs("key 0 and key 1", desk, due);
        for (int which : new int[] {-1, 2, 3, Integer.MIN_VALUE, Integer.MAX_VALUE}) {
            check.throwing("key " + which, IndexOutOfBoundsException.class, () -> desk.key(which, 1, 2, 3, 4));
        }
        desk.seal(0);
        check.outputIs("keys after a wrong one", desk, due);
        Check.setKey(desk, 1, key0);
        Check.setKey(desk, 0, key1);
        desk.seal(0);
        check.outputIs("keys the other way", desk,
                Reference.sealMarked(key1, key0, Arrays.asList(), Check.some(33)));
    }

    private static void feeding() {
        SealingDesk desk = new SealingDesk();
        check.same("feed 4", desk.feed(0xf1e2d3c4, 4), 4);
        check.same("feed 1", desk.feed(0xf1e2d3c4, 1), 5);
        check.same("feed 2", desk.feed(0x81020304, 2), 7);
        check.same("feed 3", desk.feed(0x00ff7f80, 3), 10);
        byte[] due = Check.bytes("f1e2d3c4 f1 8102 00ff7f");
        inputIs("the first bytes of words", desk, ZERO, due);
        for (int n : new int[] {0, 5, -1, 8, Integer.MIN_VALUE, Integer.MAX_VALUE}) {
            check.throwing("feed of " + n, IllegalArgumentException.class, () -> desk.feed(-1, n));
        }
        inputIs("input after wrong feeds", desk, ZERO, due);
    }

    private static void fullInput() {
        SealingDesk desk = new SealingDesk();
        byte[] full = Check.some(88);
        Check.setInput(desk, Arrays.copyOf(full, 86));
        check.throwing("86 and 3", IllegalStateException.class, () -> desk.feed(-1, 3));
        check.throwing("86 and 4", IllegalStateException.class, () -> desk.feed(-1, 4));
        check.throwing("86 and 5", IllegalArgumentException.class, () -> desk.feed(-1, 5));
        inputIs("input of 86", desk, ZERO, Arrays.copyOf(full, 86));
        check.same("86 and 2", desk.feed(Check.word(full, 84) << 16, 2), 88);
        inputIs("input of 88", desk, ZERO, full);
        for (int n = 1; n <= 4; n++) {
            int count = n;
            check.throwing("88 and " + n, IllegalStateException.class, () -> desk.feed(-1, count));
        }
        check.throwing("88 and 0", IllegalArgumentException.class, () -> desk.feed(-1, 0));
        inputIs("input of 88 after too much", desk, ZERO, full);
    }

    private static void dropping() {
        SealingDesk desk = new SealingDesk();
        Check.setInput(desk, Check.some(16));
        desk.cipher(false);
        byte[] output = Check.output(desk);
        Check.addItem(desk, Check.some(3));
        Check.setInput(desk, Check.some(88));
        desk.drop();
        check.outputIs("drop leaves the output", desk, output);
        check.same("feed after drop", desk.feed(5 << 24, 1), 1);
        inputIs("input after drop", desk, ZERO, new byte[] {5});
        desk.drop();
        desk.drop();
        inputIs("input dropped twice", desk, ZERO, new byte[0]);
        check.same("drop leaves the items", desk.forget(), 1);
    }

    private static void altering() {
        SealingDesk desk = new SealingDesk();
        byte[] row = Check.some(19);
        check.throwing("alter of no input", IndexOutOfBoundsException.class, () -> desk.alter(0, 1));
        Check.setInput(desk, row);
        int[] places = {0, 18, 9};
        int[] values = {255, 0, 128};
        for (int i = 0; i < places.length; i++) {
            desk.alter(places[i], values[i]);
            row[places[i]] = (byte) values[i];
            inputIs("byte " + places[i] + " altered", desk, ZERO, row);
        }
        for (int k : new int[] {-1, 19, 20, 87, 88, Integer.MIN_VALUE, Integer.MAX_VALUE}) {
            check.throwing("alter at " + k, IndexOutOfBoundsException.class, () -> desk.alter(k, 1));
            check.throwing("alter at " + k + " to 256", IndexOutOfBoundsException.class, () -> desk.alter(k, 256));
        }
        for (int b : new int[] {-1, 256, 257, Integer.MIN_VALUE, Integer.MAX_VALUE}) {
            check.throwing("alter to " + b, IllegalArgumentException.class, () -> desk.alter(3, b));
        }
        inputIs("input after wrong alters", desk, ZERO, row);
    }
}
