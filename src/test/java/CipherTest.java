/** Promise 8: cipher. */
public final class CipherTest {
    private static final Check check = new Check();

    public static void main(String[] args) {
        known("00010203 04050607 08090a0b 0c0d0e0f", "00112233 44556677 8899aabb ccddeeff",
                "69c4e0d8 6a7b0430 d8cdb780 70b4c55a");
        known("2b7e1516 28aed2a6 abf71588 09cf4f3c", "3243f6a8 885a308d 313198a2 e0370734",
                "3925841d 02dc09fb dc118597 196a0b32");
        everyByte();
        againstTheLibrary();
        wrongLengths();
        check.end();
    }

    private static void known(String key, String plain, String turned) {
        byte[] unused = Check.some(16);
        SealingDesk desk = Check.deskWith(Check.bytes(key), unused);
        Check.setInput(desk, Check.bytes(plain));
        desk.cipher(false);
        check.outputIs("cipher of " + plain, desk, Check.bytes(turned));
        Check.setInput(desk, Check.bytes(turned));
        desk.cipher(true);
        check.outputIs("back of " + turned, desk, Check.bytes(plain));
        Check.setInput(desk, Check.bytes(plain));
        desk.cipher(true);
        check.outputIs("back of " + plain, desk, Reference.decipher(Check.bytes(key), Check.bytes(plain)));
        desk.cipher(false);
        check.outputIs("the input stays", desk, Check.bytes(turned));
    }

    private static void everyByte() {
        for (int b = 0; b < 256; b++) {
            byte[] row = Check.filled(16, b);
            SealingDesk desk = new SealingDesk();
            Check.setInput(desk, row);
            desk.cipher(false);
            check.outputIs("cipher of bytes " + b, desk, Reference.encipher(new byte[16], row));
            Check.setKey(desk, 0, row);
            desk.cipher(true);
            check.outputIs("back, by a key of " + b, desk, Reference.decipher(row, row));
        }
    }

    private static void againstTheLibrary() {
        Numbers numbers = new Numbers(8);
        for (int i = 0; i < 500; i++) {
            byte[] key = numbers.row(16);
            byte[] row = numbers.row(16);
            SealingDesk desk = Check.deskWith(key, numbers.row(16));
            Check.setInput(desk, row);
            desk.cipher(false);
            check.outputIs("cipher", desk, Reference.encipher(key, row));
            desk.cipher(true);
            check.outputIs("back", desk, Reference.decipher(key, row));
        }
    }

    private static void wrongLengths() {
        SealingDesk desk = new SealingDesk();
        Check.setInput(desk, Check.some(16));
        desk.cipher(false);
        byte[] output = Check.output(desk);
        for (int length = 0; length <= 88; length++) {
            if (length != 16) {
                SealingDesk fresh = new SealingDesk();
                Check.setInput(fresh, Check.some(16));
                fresh.cipher(false);
                Check.setInput(fresh, Check.some(length));
                check.throwing("cipher of " + length, IllegalArgumentException.class, () -> fresh.cipher(false));
                check.throwing("back of " + length, IllegalArgumentException.class, () -> fresh.cipher(true));
                check.outputIs("output after a wrong length", fresh, output);
            }
        }
    }
}
