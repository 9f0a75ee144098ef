import java.util.Arrays;
import java.util.List;

/** The lengths that each way takes: the last one that is taken and the first that is refused, on either side. */
public final class LengthsTest {
    private static final byte[] KEY0 = Known.KEY0;
    private static final byte[] KEY1 = Known.KEY1;
    private static final Check check = new Check();

    public static void main(String[] args) {
        sealMarked();
        openMarked();
        sealWrapped();
        openWrapped();
        sealPadded();
        sealPaddedOfOneRow();
        openPadded();
        check.end();
    }

    private static void sealMarked() {
        check.sentence("0 MARKED, of 0 .. 64 bytes");
        sealsTo(0, 0, 16);
        sealsTo(0, 1, 17);
        sealsTo(0, 15, 31);
        sealsTo(0, 16, 32);
        sealsTo(0, 17, 33);
        sealsTo(0, 63, 79);
        sealsTo(0, 64, 80);
        doesNotSeal(0, 65);
        doesNotSeal(0, 88);
    }

    private static void openMarked() {
        check.sentence("To open 16 .. 80 bytes");
        doesNotOpen(0, 0);
        doesNotOpen(0, 15);
        opensTo(0, 16, 0);
        opensTo(0, 17, 1);
        opensTo(0, 79, 63);
        opensTo(0, 80, 64);
        doesNotOpen(0, 81);
        doesNotOpen(0, 88);
    }

    private static void sealWrapped() {
        check.sentence("1 WRAPPED, of n rows of 8 bytes, n = 2 .. 8");
        for (int length : new int[] {0, 1, 7, 8, 9, 15}) {
            doesNotSeal(1, length);
        }
        for (int n = 2; n <= 8; n++) {
            doesNotSeal(1, 8 * n - 1);
            sealsTo(1, 8 * n, 8 * n + 8);
            doesNotSeal(1, 8 * n + 1);
        }
        doesNotSeal(1, 72);
        doesNotSeal(1, 80);
        doesNotSeal(1, 88);
    }

    private static void openWrapped() {
        check.sentence("To open n + 1 rows");
        for (int length : new int[] {0, 8, 15, 16, 17}) {
            doesNotOpen(1, length);
        }
        for (int n = 2; n <= 8; n++) {
            doesNotOpen(1, 8 * n + 7);
            opensTo(1, 8 * n + 8, 8 * n);
            doesNotOpen(1, 8 * n + 9);
        }
        doesNotOpen(1, 80);
        doesNotOpen(1, 88);
    }

    private static void sealPadded() {
        check.sentence("2 PADDED, of 1 .. 64 bytes");
        doesNotSeal(2, 0);
        sealsTo(2, 1, 16);
        sealsTo(2, 7, 16);
        sealsTo(2, 8, 16);
        for (int n = 2; n <= 8; n++) {
            sealsTo(2, 8 * n - 7, 8 * n + 8);
            sealsTo(2, 8 * n - 1, 8 * n + 8);
            sealsTo(2, 8 * n, 8 * n + 8);
        }
        doesNotSeal(2, 65);
        doesNotSeal(2, 72);
        doesNotSeal(2, 88);
    }

    /** Made here of A and the zeros, not by the library's own padding. */
    private static void sealPaddedOfOneRow() {
        check.sentence("If they are 8 bytes then, the output is the cipher of A and them; otherwise as for WRAPPED");
        for (int length = 1; length <= 64; length++) {
            Known known = Known.desk(0, length, 0);
            byte[] a = Check.join(Check.bytes("a65959a6 000000"), Check.filled(1, length));
            byte[] rows = Arrays.copyOf(known.input, (length + 7) / 8 * 8);
            known.desk.seal(2);
            known.output = length <= 8
                    ? Reference.encipher(KEY0, Check.join(a, rows))
                    : Reference.sealBehind(KEY0, a, rows);
            known.check(check, "seal of " + length);
        }
    }

    private static void openPadded() {
        check.sentence("To open 16 bytes (back, by the cipher), or n + 1 rows, n = 2 .. 8");
        for (int length : new int[] {0, 1, 8}) {
            doesNotOpen(2, length);
        }
        for (int n = 1; n <= 8; n++) {
            doesNotOpen(2, 8 * n + 7);
            opensTo(2, 8 * n + 8, 8 * n - 7);
            opensTo(2, 8 * n + 8, 8 * n);
            doesNotOpen(2, 8 * n + 9);
        }
        doesNotOpen(2, 80);
        doesNotOpen(2, 88);
    }

    private static byte[] sealed(int way, List<byte[]> items, byte[] row) {
        return switch (way) {
            case 0 -> Reference.sealMarked(KEY0, KEY1, items, row);
            case 1 -> Reference.sealWrapped(KEY0, row);
            default -> Reference.sealPadded(KEY0, row);
        };
    }

    private static void sealsTo(int way, int length, int due) {
        String what = "seal of " + length;
        Known known = Known.desk(2, length, 80);
        check.same(what, known.desk.seal(way), due);
        known.output = sealed(way, known.items, known.input);
        check.same(what + " by the reference", known.output.length, due);
        known.check(check, what);
    }

    private static void opensTo(int way, int length, int due) {
        String what = "open of " + length;
        Known known = Known.desk(2, 0, 80);
        byte[] row = Check.some(due);
        known.setInput(sealed(way, known.items, row));
        check.same(what + " by the reference", known.input.length, length);
        check.same(what, known.desk.open(way), due);
        known.output = row;
        known.check(check, what);
    }

    private static void doesNotSeal(int way, int length) {
        Known known = Known.desk(2, length, 80);
        check.throwing("seal of " + length, IllegalArgumentException.class, () -> known.desk.seal(way));
        known.check(check, "seal of " + length);
    }

    private static void doesNotOpen(int way, int length) {
        Known known = Known.desk(2, length, 80);
        check.throwing("open of " + length, IllegalArgumentException.class, () -> known.desk.open(way));
        known.check(check, "open of " + length);
    }
}
