import java.util.ArrayList;
import java.util.List;

/** A desk whose whole state is known, so that the calls behind a refused one can show that nothing changed. */
final class Known {
    static final byte[] KEY0 = Check.bytes("80000000 7fffffff ff00ff00 01020304");
    static final byte[] KEY1 = Check.bytes("a1b2c3d4 e5f60718 293a4b5c 6d7e8f90");

    final SealingDesk desk = Check.deskWith(KEY0, KEY1);
    final List<byte[]> items = new ArrayList<>();
    byte[] input = new byte[0];
    byte[] output = new byte[0];

    /** So many items, of lengths that differ, an input and an output of so many bytes; the output of 0 .. 64 or 80. */
    static Known desk(int items, int input, int output) {
        Known known = new Known();
        known.makeOutput(output);
        for (int i = 0; i < items; i++) {
            known.items.add(Check.some(10 * i));
            Check.addItem(known.desk, known.items.get(i));
        }
        known.setInput(Check.some(input));
        return known;
    }

    private void makeOutput(int length) {
        byte[] row = Check.some(Math.min(length, 64));
        Check.setInput(desk, row);
        desk.seal(0);
        output = Reference.sealMarked(KEY0, KEY1, items, row);
        if (length <= 64) {
            desk.take();
            desk.open(0);
            output = row;
        }
    }

    void setInput(byte[] row) {
        input = row;
        Check.setInput(desk, row);
    }

    /** Looks at all that a call can show; the desk is another one behind that. */
    void check(Check check, String what) {
        checkOutput(check, what);
        desk.mark(false);
        check.outputIs(what + ", then the mark of the input", desk, Reference.mark(KEY0, input));
        desk.mark(true);
        check.outputIs(what + ", then the joint mark", desk, Reference.joint(KEY0, items, input));
        if (input.length < 88) {
            check.same(what + ", then a byte more", desk.feed(0, 1), input.length + 1);
        }
        check.same(what + ", then forget", desk.forget(), items.size());
        checkKeys(check, what);
    }

    private void checkOutput(Check check, String what) {
        check.outputIs(what + ", then the output", desk, output);
        check.throwing(what + ", then at behind the output", IndexOutOfBoundsException.class,
                () -> desk.at(output.length));
    }

    private void checkKeys(Check check, String what) {
        byte[] row = Check.some(17);
        Check.setInput(desk, row);
        desk.seal(0);
        check.outputIs(what + ", then by both keys", desk, Reference.sealMarked(KEY0, KEY1, List.of(), row));
    }
}
