/** Promises 12 to 14: size, at, take. */
public final class OutputTest {
    private static final Check check = new Check();

    public static void main(String[] args) {
        sizes();
        places();
        taking();
        check.end();
    }

    private static void sizes() {
        SealingDesk desk = new SealingDesk();
        Check.setInput(desk, Check.some(64));
        check.same("size at first", desk.size(), 0);
        desk.mark(true);
        check.same("size of a mark", desk.size(), 16);
        desk.seal(0);
        check.same("size of MARKED", desk.size(), 80);
        desk.seal(1);
        check.same("size of WRAPPED", desk.size(), 72);
        desk.take();
        desk.open(1);
        check.same("size of what was opened", desk.size(), 64);
        desk.drop();
        check.same("size after drop", desk.size(), 64);
        desk.seal(0);
        desk.take();
        check.same("an empty output", desk.open(0), 0);
        check.same("size of an empty output", desk.size(), 0);
        check.throwing("at(0) of an empty output", IndexOutOfBoundsException.class, () -> desk.at(0));
        check.same("take of an empty output", desk.take(), 0);
        check.same("feed after it", desk.feed(0, 2), 2);
    }

    private static void places() {
        SealingDesk desk = new SealingDesk();
        Check.setInput(desk, Check.some(64));
        desk.seal(0);
        desk.take();
        desk.open(0);
        check.outputIs("every byte", desk, Check.some(64));
        check.same("a byte above 127", desk.at(5), Check.some(64)[5] & 255);
        for (int k : new int[] {-1, 64, 65, 79, 80, 88, Integer.MIN_VALUE, Integer.MAX_VALUE}) {
            check.throwing("at " + k, IndexOutOfBoundsException.class, () -> desk.at(k));
        }
    }

    private static void taking() {
        SealingDesk desk = new SealingDesk();
        Check.setInput(desk, Check.some(24));
        desk.seal(2);
        byte[] sealed = Check.output(desk);
        Check.setInput(desk, Check.some(88));
        check.same("take in place of more", desk.take(), 32);
        check.outputIs("take leaves the output", desk, sealed);
        desk.alter(0, desk.at(0) ^ 1);
        check.outputIs("alter leaves the output", desk, sealed);
        check.same("feed behind what was taken", desk.feed(0x61626364, 4), 36);
        desk.mark(false);
        check.outputIs("input of what was taken", desk, Reference.mark(new byte[16],
                Check.join(Check.flipped(sealed, 0, 1), Check.bytes("61626364"))));
        check.same("take of a mark", desk.take(), 16);
        byte[] mark = Check.output(desk);
        desk.cipher(false);
        check.outputIs("cipher of a taken mark", desk, Reference.encipher(new byte[16], mark));
        check.same("take of the cipher", desk.take(), 16);
        desk.cipher(true);
        check.outputIs("and back", desk, mark);
    }
}
