import java.util.ArrayList;
import java.util.Arrays;
import java.util.List;

/** Promise 9: mark. */
public final class MarkTest {
    private static final byte[] KEY = Check.bytes("2b7e1516 28aed2a6 abf71588 09cf4f3c");
    private static final Check check = new Check();

    public static void main(String[] args) {
        knownMarks();
        knownJointMarks();
        everyLength();
        twistsWithAndWithoutCarry();
        inputAndItemsStay();
        check.end();
    }

    private static void knownMarks() {
        byte[] text = Check.bytes("6bc1bee22e409f96e93d7e117393172a ae2d8a571e03ac9c9eb76fac45af8e51"
                + "30c81c46a35ce411e5fbc1191a0a52ef f69f2445df4f9b17ad2b417be66c3710");
        knownMark(text, 0, "bb1d6929e95937287fa37d129b756746");
        knownMark(text, 16, "070a16b46b4d4144f79bdd9dd04a287c");
        knownMark(text, 40, "dfa66747de9ae63030ca32611497c827");
        knownMark(text, 64, "51f0bebf7e3b9d92fc49741779363cfe");
    }

    private static void knownMark(byte[] text, int length, String due) {
        SealingDesk desk = Check.deskWith(KEY, Check.some(16));
        Check.setInput(desk, Arrays.copyOf(text, length));
        desk.mark(false);
        check.outputIs("mark of " + length, desk, Check.bytes(due));
    }

    private static void knownJointMarks() {
        SealingDesk desk = Check.deskWith(Check.bytes("fffefdfc fbfaf9f8 f7f6f5f4 f3f2f1f0"), Check.some(16));
        Check.addItem(desk, Check.bytes("10111213 14151617 18191a1b 1c1d1e1f 20212223 24252627"));
        Check.setInput(desk, Check.bytes("11223344 55667788 99aabbcc ddee"));
        desk.mark(true);
        check.outputIs("joint mark of RFC 5297, A.1", desk, Check.bytes("85632d07 c6e8f37f 950acd32 0a2ecc93"));
    }

    private static void everyLength() {
        Numbers numbers = new Numbers(9);
        for (int length = 0; length <= 88; length++) {
            byte[] key = numbers.row(16);
            byte[] row = numbers.row(length);
            List<byte[]> items = new ArrayList<>();
            SealingDesk desk = Check.deskWith(key, numbers.row(16));
            for (int i = 0; i < length % 6; i++) {
                items.add(numbers.row(numbers.below(41)));
                Check.addItem(desk, items.get(i));
            }
            Check.setInput(desk, row);
            desk.mark(true);
            check.outputIs("joint mark of " + length, desk, Reference.joint(key, items, row));
            desk.mark(false);
            check.outputIs("mark of " + length, desk, Reference.mark(key, row));
        }
    }

    /** Keys whose E has each of the four pairs of highest bits, so that each double has its ^ 135 and not. */
    private static void twistsWithAndWithoutCarry() {
        int[] seen = new int[4];
        Numbers numbers = new Numbers(135);
        for (int i = 0; i < 60; i++) {
            byte[] key = numbers.row(16);
            seen[(Reference.encipher(key, new byte[16])[0] & 255) >> 6]++;
            SealingDesk desk = Check.deskWith(key, new byte[16]);
            for (int length : new int[] {0, 15, 16, 17, 32}) {
                Check.setInput(desk, Check.some(length));
                desk.mark(false);
                check.outputIs("mark of " + length, desk, Reference.mark(key, Check.some(length)));
                desk.mark(true);
                check.outputIs("joint mark of " + length, desk,
                        Reference.joint(key, List.of(), Check.some(length)));
            }
        }
        for (int count : seen) {
            check.same("each pair of bits was there", count > 0 ? 1 : 0, 1);
        }
    }

    private static void inputAndItemsStay() {
        SealingDesk desk = Check.deskWith(KEY, new byte[16]);
        Check.addItem(desk, Check.some(9));
        Check.setInput(desk, Check.some(12));
        for (int i = 0; i < 3; i++) {
            desk.mark(true);
            check.outputIs("joint mark again", desk, Reference.joint(KEY, List.of(Check.some(9)), Check.some(12)));
            desk.mark(false);
            check.outputIs("mark again", desk, Reference.mark(KEY, Check.some(12)));
        }
        check.same("items after marks", desk.forget(), 1);
        check.same("input after marks", desk.feed(0, 1), 13);
    }
}
