import java.util.ArrayList;
import java.util.Arrays;
import java.util.List;

/** The edges that 'Terms' names of bytes, words, the cipher, double, the marks and the row of the ciphers. */
public final class TermsTest {
    private static final byte[] ZERO = new byte[16];
    private static final byte[] KEY0 = Known.KEY0;
    private static final byte[] KEY1 = Known.KEY1;
    private static final Check check = new Check();

    public static void main(String[] args) {
        bytes();
        words();
        cipherOfZeros();
        lastRound();
        everyByteInEveryPlace();
        everyKeyByteInEveryPlace();
        highestBitOfE();
        doubleOfEveryBit();
        fullBlocks();
        jointBehindItems();
        jointOfSixteen();
        jointOfItemLengths();
        twoBitsOfC();
        carriesOfC();
        check.end();
    }

    private static void bytes() {
        check.sentence("BYTES are 0 .. 255");
        SealingDesk desk = new SealingDesk();
        Check.setInput(desk, Check.bytes("00 01 7f 80 81 fe ff"));
        desk.seal(0);
        desk.take();
        desk.open(0);
        int[] due = {0, 1, 127, 128, 129, 254, 255};
        for (int k = 0; k < due.length; k++) {
            check.same("byte " + k, desk.at(k), due[k]);
        }
    }

    private static void words() {
        check.sentence("WORDS are ints, of four bytes, the highest first");
        int[] words = {0, 1, -1, Integer.MIN_VALUE, Integer.MAX_VALUE, 0x00ff0000, 0x0000ff00, 0x81c2e3f4};
        for (int word : words) {
            byte[] row = {(byte) (word >> 24), (byte) (word >> 16), (byte) (word >> 8), (byte) word};
            for (int n = 1; n <= 4; n++) {
                SealingDesk desk = new SealingDesk();
                check.same("feed of " + n, desk.feed(word, n), n);
                desk.mark(false);
                check.outputIs(n + " bytes of " + word, desk, Reference.mark(ZERO, Arrays.copyOf(row, n)));
            }
            for (int place = 0; place < 4; place++) {
                keyWord(word, row, place);
            }
        }
    }

    private static void keyWord(int word, byte[] row, int place) {
        int[] four = new int[4];
        four[place] = word;
        byte[] key = new byte[16];
        System.arraycopy(row, 0, key, 4 * place, 4);
        SealingDesk desk = new SealingDesk();
        desk.key(0, four[0], four[1], four[2], four[3]);
        desk.mark(false);
        check.outputIs("a key with " + word + " at " + place, desk, Reference.mark(key, new byte[0]));
    }

    private static void cipherOfZeros() {
        check.sentence("let c be the byte whose product with b is 1 (0 for 0)");
        ciphersTo(ZERO, ZERO, Check.bytes("66e94bd4ef8a2c3b884cfa59ca342b2e"));
        byte[] sOfThemIsZero = Check.filled(16, 0x52);
        ciphersTo(ZERO, sOfThemIsZero, Reference.encipher(ZERO, sOfThemIsZero));
    }

    private static void lastRound() {
        check.sentence("but for r = 10 each four bytes a b c d one behind the other become");
        byte[] full = Check.filled(16, 255);
        ciphersTo(full, full, Check.bytes("bcbf217cb280cf30b2517052193ab979"));
        ciphersTo(Check.bytes("00010203 04050607 08090a0b 0c0d0e0f"),
                Check.bytes("00112233 44556677 8899aabb ccddeeff"), Check.bytes("69c4e0d8 6a7b0430 d8cdb780 70b4c55a"));
    }

    private static void ciphersTo(byte[] key, byte[] row, byte[] due) {
        SealingDesk desk = Check.deskWith(key, KEY1);
        Check.setInput(desk, row);
        desk.cipher(false);
        check.outputIs("cipher of " + Check.text(row), desk, due);
        desk.take();
        desk.cipher(true);
        check.outputIs("and back", desk, row);
        Check.setInput(desk, row);
        desk.cipher(true);
        check.outputIs("back of " + Check.text(row), desk, Reference.decipher(key, row));
        desk.take();
        desk.cipher(false);
        check.outputIs("and forth", desk, row);
    }

    private static void everyByteInEveryPlace() {
        check.sentence("what is left by x^8 + x^4 + x^3 + x + 1");
        for (int k = 0; k < 16; k++) {
            for (int b = 0; b < 256; b++) {
                byte[] row = Check.flipped(ZERO, k, b);
                ciphersTo(ZERO, row, Reference.encipher(ZERO, row));
            }
        }
    }

    private static void everyKeyByteInEveryPlace() {
        check.sentence("its highest byte ^ the product of i / 4 - 1 twos (1 for none)");
        for (int k = 0; k < 16; k++) {
            for (int b = 0; b < 256; b++) {
                byte[] key = Check.flipped(ZERO, k, b);
                ciphersTo(key, ZERO, Reference.encipher(key, ZERO));
            }
        }
    }

    /** Keys whose E has each of the four pairs of highest bits, so that either double has its ^ 135 and not. */
    private static void highestBitOfE() {
        check.sentence("DOUBLE: twice it (without what is beyond 128 bits), ^ 135 if its highest bit was 1");
        int[] seen = new int[4];
        for (int i = 0; i < 64; i++) {
            byte[] key = Check.flipped(KEY0, 15, i);
            seen[(Reference.encipher(key, ZERO)[0] & 255) >> 6]++;
            SealingDesk desk = Check.deskWith(key, KEY1);
            for (int length : new int[] {0, 16}) {
                Check.setInput(desk, Check.some(length));
                desk.mark(false);
                check.outputIs("mark of " + length, desk, Reference.mark(key, Check.some(length)));
            }
        }
        for (int pair = 0; pair < 4; pair++) {
            check.same("E that begins with the pair " + pair + " was there", Math.min(seen[pair], 1), 1);
        }
    }

    /** An item is made so that D is a row of one bit, of none, or of all; behind it 15 bytes are ^ double D. */
    private static void doubleOfEveryBit() {
        List<byte[]> sums = new ArrayList<>(List.of(ZERO, Check.filled(16, 255), Check.flipped(ZERO, 0, 192)));
        for (int bit = 0; bit < 128; bit++) {
            sums.add(Check.flipped(ZERO, bit / 8, 1 << bit % 8));
        }
        for (byte[] sum : sums) {
            byte[] item = Reference.itemForSum(KEY0, sum);
            jointIs("D is " + Check.text(sum), List.of(item), Check.some(15));
            jointIs("D was " + Check.text(sum), List.of(item, Check.some(3)), Check.some(16));
        }
    }

    private static void jointIs(String what, List<byte[]> items, byte[] row) {
        SealingDesk desk = Check.deskWith(KEY0, KEY1);
        for (byte[] item : items) {
            Check.addItem(desk, item);
        }
        Check.setInput(desk, row);
        desk.mark(true);
        check.outputIs(what, desk, Reference.joint(KEY0, items, row));
    }

    private static void fullBlocks() {
        check.sentence("If the bytes are a number of full blocks of 16, one or more");
        for (int length = 0; length <= 88; length++) {
            markIs(Check.some(length));
            markIs(new byte[length]);
            markIs(Check.filled(length, 255));
            if (length > 0) {
                markIs(Check.join(Check.some(length - 1), Check.filled(1, 128)));
            }
        }
    }

    private static void markIs(byte[] row) {
        SealingDesk desk = Check.deskWith(KEY0, KEY1);
        Check.setInput(desk, row);
        desk.mark(false);
        check.outputIs("mark of " + Check.text(row), desk, Reference.mark(KEY0, row));
    }

    private static void jointBehindItems() {
        check.sentence("for each item in turn D becomes double D ^ the mark of the item");
        List<byte[]> items = new ArrayList<>();
        jointIs("no item", items, Check.some(20));
        for (int count = 1; count <= 5; count++) {
            items.add(Check.some(9 * count - 7));
            jointIs(count + " items", items, Check.some(20));
            jointIs(count + " items, nothing behind", items, new byte[0]);
        }
        jointIs("the items in another turn", List.of(items.get(4), items.get(0), items.get(2)), Check.some(20));
        jointIs("five times the same", List.of(ZERO, ZERO, ZERO, ZERO, ZERO), Check.some(20));
    }

    private static void jointOfSixteen() {
        check.sentence("If there are 16 bytes or more, the last 16 of them are ^ D; otherwise they get a byte 128");
        for (int length = 0; length <= 88; length++) {
            jointIs("joint mark of " + length, List.of(), Check.some(length));
            jointIs("joint mark of an item and " + length, List.of(Check.some(5)), Check.some(length));
        }
        jointIs("a byte 128 that was there before", List.of(), Check.join(Check.some(15), Check.filled(1, 128)));
    }

    private static void jointOfItemLengths() {
        check.sentence("ITEMS are up to 5 rows of bytes");
        for (int length = 0; length <= 40; length++) {
            jointIs("an item of " + length, List.of(Check.some(length)), Check.some(4));
            jointIs("two items of " + length, List.of(Check.some(length), new byte[length]), Check.some(30));
        }
    }

    private static void twoBitsOfC() {
        check.sentence("C being V without the highest bits of its bytes 8 and 12");
        sealsWithMark(ZERO);
        sealsWithMark(Check.filled(16, 255));
        for (int bit = 0; bit < 128; bit++) {
            sealsWithMark(Check.flipped(ZERO, bit / 8, 1 << bit % 8));
            sealsWithMark(Check.flipped(Check.filled(16, 255), bit / 8, 1 << bit % 8));
        }
    }

    /**
     * C has no highest bit in byte 12, so that C + 3 is never beyond 128 bits: the carry into that bit is the furthest
     * that there is, and here it comes with the second, the third and the fourth block, and not at all.
     */
    private static void carriesOfC() {
        check.sentence("of C, C + 1, C + 2, .. (wrapping at 128 bits)");
        String[] fronts = {"00000000 00000000 00000000", "ffffffff ffffffff ffffffff"};
        String[] ends = {"000000", "0000ff", "00ffff", "01ffff", "7fffff", "feffff", "ffffff", "ff00ff", "ffff00"};
        for (String front : fronts) {
            for (String end : ends) {
                for (int highest : new int[] {0x00, 0x7e, 0x7f, 0x80, 0xff}) {
                    for (int less = 0; less <= 3; less++) {
                        byte[] mark = Check.join(Check.bytes(front), Check.filled(1, highest), Check.bytes(end));
                        mark[15] -= (byte) less;
                        sealsWithMark(mark);
                    }
                }
            }
        }
    }

    /** Makes bytes whose joint mark is this one, so that C can be chosen. */
    private static void sealsWithMark(byte[] mark) {
        for (int blocks = 0; blocks <= 3; blocks += 3) {
            List<byte[]> items = List.of(Check.some(7));
            byte[] row = Reference.rowWithJoint(KEY0, items, Check.some(16 * blocks), mark);
            SealingDesk desk = Check.deskWith(KEY0, KEY1);
            Check.addItem(desk, items.get(0));
            Check.setInput(desk, row);
            check.same("seal of " + row.length, desk.seal(0), row.length + 16);
            byte[] due = Reference.sealMarkedBehind(KEY1, mark, row);
            check.outputIs("sealed with V " + Check.text(mark), desk, due);
            desk.take();
            check.same("open of it", desk.open(0), row.length);
            check.outputIs("opened with V " + Check.text(mark), desk, row);
        }
    }
}
