import java.util.ArrayList;
import java.util.Arrays;
import java.util.List;

/** Promise 10: seal. */
public final class SealTest {
    private static final byte[] KEY0 = Check.bytes("00010203 04050607 08090a0b 0c0d0e0f");
    private static final byte[] KEY1 = Check.bytes("a1b2c3d4 e5f60718 293a4b5c 6d7e8f90");
    private static final Check check = new Check();

    public static void main(String[] args) {
        knownMarked();
        knownWrapped();
        everyLength();
        countersThatCarry();
        wrongWays();
        check.end();
    }

    private static void knownMarked() {
        SealingDesk desk = Check.deskWith(Check.bytes("7f7e7d7c 7b7a7978 77767574 73727170"),
                Check.bytes("40414243 44454647 48494a4b 4c4d4e4f"));
        Check.addItem(desk, Check.bytes("00112233 44556677 8899aabb ccddeeff deaddada deaddada"
                + "ffeeddcc bbaa9988 77665544 33221100"));
        Check.addItem(desk, Check.bytes("10203040 50607080 90a0"));
        Check.addItem(desk, Check.bytes("09f91102 9d74e35b d84156c5 635688c0"));
        Check.setInput(desk, Check.bytes("74686973 20697320 736f6d65 20706c61 696e7465 78742074"
                + "6f20656e 63727970 74207573 696e6720 5349562d 414553"));
        check.same("seal of RFC 5297, A.2", desk.seal(0), 63);
        check.outputIs("RFC 5297, A.2", desk, Check.bytes("7bdb6e3b 432667eb 06f4d14b ff2fbd0f"
                + "cb900f2f ddbe4043 26601965 c889bf17 dba77ceb 094fa663 b7a3f748 ba8af829 ea64ad54"
                + "4a272e9c 485b62a3 fd5c0d"));
    }

    private static void knownWrapped() {
        SealingDesk desk = Check.deskWith(KEY0, KEY1);
        Check.setInput(desk, Check.bytes("00112233 44556677 8899aabb ccddeeff"));
        check.same("seal of RFC 3394, 4.1", desk.seal(1), 24);
        check.outputIs("RFC 3394, 4.1", desk, Check.bytes("1fa68b0a8112b447 aef34bd8fb5a7b82 9d3e862371d2cfe5"));
    }

    private static void everyLength() {
        for (int length = 0; length <= 88; length++) {
            sealOrThrow(0, length, length <= 64);
            sealOrThrow(1, length, length % 8 == 0 && length >= 16 && length <= 64);
            sealOrThrow(2, length, length >= 1 && length <= 64);
        }
    }

    private static void sealOrThrow(int way, int length, boolean fits) {
        String what = "way " + way + " of " + length;
        SealingDesk desk = Check.deskWith(KEY0, KEY1);
        List<byte[]> items = new ArrayList<>();
        for (int i = 0; i < length % 6; i++) {
            items.add(Check.some((7 * i + length) % 41));
            Check.addItem(desk, items.get(i));
        }
        byte[] row = Check.some(length);
        Check.setInput(desk, row);
        desk.mark(false);
        if (fits) {
            byte[] due = due(way, items, row);
            check.same(what, desk.seal(way), due.length);
            check.outputIs(what, desk, due);
            check.same(what + " again", desk.seal(way), due.length);
            check.outputIs(what + " again", desk, due);
        } else {
            check.throwing(what, IllegalArgumentException.class, () -> desk.seal(way));
            check.outputIs(what + " leaves the output", desk, Reference.mark(KEY0, row));
        }
        desk.mark(true);
        check.outputIs(what + " leaves input and items", desk, Reference.joint(KEY0, items, row));
    }

    private static byte[] due(int way, List<byte[]> items, byte[] row) {
        if (way == 0) {
            return Reference.sealMarked(KEY0, KEY1, items, row);
        }
        return way == 1 ? Reference.sealWrapped(KEY0, row) : Reference.sealPadded(KEY0, row);
    }

    /** Rows whose mark ends so that C + 1 .. C + 3 carry over one byte and over two. */
    private static void countersThatCarry() {
        int overOne = 0;
        int overTwo = 0;
        byte[] row = Check.some(64);
        for (int i = 0; i < 200000 && (overOne < 5 || overTwo < 1); i++) {
            row[0] = (byte) i;
            row[1] = (byte) (i >> 8);
            row[2] = (byte) (i >> 16);
            byte[] mark = Reference.joint(KEY0, List.of(), row);
            boolean carries = (mark[15] & 255) >= 253;
            boolean twice = carries && mark[14] == -1;
            if (twice || carries && overOne < 5) {
                overOne++;
                overTwo += twice ? 1 : 0;
                SealingDesk desk = Check.deskWith(KEY0, KEY1);
                Check.setInput(desk, row);
                desk.seal(0);
                check.outputIs("carry", desk, Reference.sealMarked(KEY0, KEY1, List.of(), row));
            }
        }
        check.same("counters that carry were there", overOne >= 5 && overTwo >= 1 ? 1 : 0, 1);
    }

    private static void wrongWays() {
        SealingDesk desk = Check.deskWith(KEY0, KEY1);
        Check.setInput(desk, Check.some(16));
        desk.cipher(false);
        byte[] output = Check.output(desk);
        for (int way : new int[] {-1, 3, 4, Integer.MIN_VALUE, Integer.MAX_VALUE}) {
            check.throwing("seal in way " + way, IndexOutOfBoundsException.class, () -> desk.seal(way));
        }
        check.outputIs("output after wrong ways", desk, output);
        Check.setInput(desk, Arrays.copyOf(output, 0));
        check.throwing("a wrong way comes before a wrong length", IndexOutOfBoundsException.class, () -> desk.seal(3));
    }
}
