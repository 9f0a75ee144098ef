import java.util.Arrays;
import java.util.List;

/** When what is opened is right, and what is only all but right: other by one bit, or by one in a number. */
public final class RightTest {
    private static final byte[] KEY0 = Known.KEY0;
    private static final byte[] KEY1 = Known.KEY1;
    private static final byte[] A = Check.filled(8, 166);
    private static final Check check = new Check();

    public static void main(String[] args) {
        marked();
        markedTopBits();
        markedOfNothing();
        wrapped();
        paddedSign();
        paddedNumber();
        paddedFarNumber();
        paddedZeros();
        paddedKeepsItsOwnZeros();
        everyBitOfWhatWasSealed();
        otherKeysAndItems();
        check.end();
    }

    private static void opens(String what, int way, byte[] sealed, byte[] due) {
        Known known = Known.desk(2, 0, 80);
        known.setInput(sealed);
        check.same(what, known.desk.open(way), due.length);
        known.output = due;
        known.check(check, what);
    }

    private static void refuses(String what, int way, byte[] sealed) {
        Known known = Known.desk(2, 0, 80);
        known.setInput(sealed);
        check.same(what, known.desk.open(way), SealingDesk.NONE);
        known.check(check, what);
    }

    private static List<byte[]> items() {
        return Known.desk(2, 0, 0).items;
    }

    private static void marked() {
        check.sentence("it is RIGHT if the joint mark of what comes is V");
        for (int length : new int[] {0, 1, 15, 16, 64}) {
            byte[] row = Check.some(length);
            byte[] mark = Reference.joint(KEY0, items(), row);
            opens("V of " + length, 0, Reference.sealMarkedBehind(KEY1, mark, row), row);
            for (int bit = 0; bit < 128; bit++) {
                byte[] other = Check.flipped(mark, bit / 8, 1 << bit % 8);
                refuses("V other in bit " + bit, 0, Reference.sealMarkedBehind(KEY1, other, row));
            }
        }
    }

    /** The two bits that C leaves out: what comes is then the same, so that V alone is wrong. */
    private static void markedTopBits() {
        byte[] row = Check.some(40);
        byte[] sealed = Reference.sealMarked(KEY0, KEY1, items(), row);
        for (int place : new int[] {8, 12}) {
            refuses("highest bit of byte " + place, 0, Check.flipped(sealed, place, 128));
        }
        refuses("both bits", 0, Check.flipped(Check.flipped(sealed, 8, 128), 12, 128));
        opens("neither bit", 0, sealed, row);
    }

    private static void markedOfNothing() {
        byte[] nothing = new byte[0];
        opens("the mark of nothing", 0, Reference.joint(KEY0, items(), nothing), nothing);
        refuses("the mark of nothing without items", 0, Reference.joint(KEY0, List.of(), nothing));
        refuses("16 bytes 0", 0, new byte[16]);
    }

    private static void wrapped() {
        check.sentence("it is right if A comes out as eight bytes 166");
        for (int n = 2; n <= 8; n++) {
            byte[] rows = Check.some(8 * n);
            opens("A of 166", 1, Reference.sealBehind(KEY0, A, rows), rows);
            for (int bit = 0; bit < 64; bit++) {
                byte[] other = Check.flipped(A, bit / 8, 1 << bit % 8);
                refuses("A other in bit " + bit, 1, Reference.sealBehind(KEY0, other, rows));
            }
            refuses("A of PADDED", 1, Reference.sealBehind(KEY0, paddedA(8 * n), rows));
        }
    }

    private static byte[] paddedA(int number) {
        byte[] a = Check.bytes("a65959a6 00000000");
        for (int k = 0; k < 4; k++) {
            a[4 + k] = (byte) (number >> (24 - 8 * k));
        }
        return a;
    }

    private static void paddedSign() {
        check.sentence("right if A comes out as 166 89 89 166 and a number");
        for (int n = 1; n <= 8; n++) {
            byte[] rows = Check.some(8 * n);
            opens("A of " + n, 2, Reference.sealBehind(KEY0, paddedA(8 * n), rows), rows);
            for (int bit = 0; bit < 32; bit++) {
                byte[] other = Check.flipped(paddedA(8 * n), bit / 8, 1 << bit % 8);
                refuses("A other in bit " + bit, 2, Reference.sealBehind(KEY0, other, rows));
            }
            refuses("A of WRAPPED", 2, Reference.sealBehind(KEY0, A, rows));
        }
    }

    private static void paddedNumber() {
        check.sentence("1 more than 8 (n - 1) at least and 8 n at most (n = 1 for 16 bytes)");
        for (int n = 1; n <= 8; n++) {
            byte[] rows = new byte[8 * n];
            for (int number = 8 * n - 7; number <= 8 * n; number++) {
                opens(number + " of " + n + " rows", 2, Reference.sealBehind(KEY0, paddedA(number), rows),
                        Arrays.copyOf(rows, number));
            }
            for (int number : new int[] {8 * n - 8, 8 * n - 9, 8 * n - 15, 8 * n + 1, 8 * n + 2, 8 * n + 8, 0, -1}) {
                refuses(number + " of " + n + " rows", 2, Reference.sealBehind(KEY0, paddedA(number), rows));
            }
        }
    }

    /** The number is of four bytes: each bit that makes it far too large, the highest too. */
    private static void paddedFarNumber() {
        for (int n = 1; n <= 8; n++) {
            for (int bit = 7; bit < 32; bit++) {
                int number = 8 * n | 1 << bit;
                refuses(number + " of " + n + " rows", 2,
                        Reference.sealBehind(KEY0, paddedA(number), Check.some(8 * n)));
            }
        }
    }

    private static void paddedZeros() {
        check.sentence("all bytes that come behind so many are 0");
        for (int n = 1; n <= 8; n++) {
            for (int number = 8 * n - 7; number < 8 * n; number++) {
                byte[] rows = Arrays.copyOf(Check.some(number), 8 * n);
                opens("zeros behind " + number, 2, Reference.sealBehind(KEY0, paddedA(number), rows),
                        Check.some(number));
                for (int k = number; k < 8 * n; k++) {
                    notZero(rows, number, k);
                }
            }
        }
    }

    private static void notZero(byte[] rows, int number, int k) {
        for (int b : new int[] {1, 128, 255}) {
            refuses("byte " + k + " behind " + number + " is " + b, 2,
                    Reference.sealBehind(KEY0, paddedA(number), Check.flipped(rows, k, b)));
        }
    }

    private static void paddedKeepsItsOwnZeros() {
        check.sentence("so many are the output");
        for (int length : new int[] {1, 7, 8, 9, 15, 16, 17, 57, 63, 64}) {
            byte[] zeros = new byte[length];
            opens("zeros of " + length, 2, Reference.sealPadded(KEY0, zeros), zeros);
            byte[] row = Check.some(length);
            row[length - 1] = 0;
            opens("a zero at the end of " + length, 2, Reference.sealPadded(KEY0, row), row);
        }
    }

    private static void everyBitOfWhatWasSealed() {
        check.sentence("whatever was not sealed so is refused");
        byte[][] sealed = {
            Reference.sealMarked(KEY0, KEY1, items(), Check.some(64)),
            Reference.sealWrapped(KEY0, Check.some(64)),
            Reference.sealPadded(KEY0, Check.some(64)),
        };
        for (int way = 0; way <= 2; way++) {
            opens("way " + way, way, sealed[way], Check.some(64));
            for (int bit = 0; bit < 8 * sealed[way].length; bit++) {
                refuses("way " + way + " other in bit " + bit, way, Check.flipped(sealed[way], bit / 8, 1 << bit % 8));
            }
            refuses("way " + way + " as another one", (way + 1) % 3, Arrays.copyOf(sealed[way], 72));
        }
    }

    private static void otherKeysAndItems() {
        byte[] row = Check.some(24);
        byte[] other = Check.flipped(KEY0, 15, 1);
        byte[] third = Check.flipped(KEY1, 0, 128);
        List<byte[]> turned = List.of(items().get(1), items().get(0));
        refuses("MARKED by another key 0", 0, Reference.sealMarked(other, KEY1, items(), row));
        refuses("MARKED by another key 1", 0, Reference.sealMarked(KEY0, third, items(), row));
        refuses("MARKED with the items turned", 0, Reference.sealMarked(KEY0, KEY1, turned, row));
        refuses("MARKED with the first item alone", 0, Reference.sealMarked(KEY0, KEY1, items().subList(0, 1), row));
        refuses("WRAPPED by another key 0", 1, Reference.sealWrapped(other, row));
        refuses("PADDED by another key 0", 2, Reference.sealPadded(other, row));
    }
}
