import java.util.List;
import java.util.function.ToIntFunction;

/** "An object is used for at most 512 calls after it has been made": the 512th is answered as any other. */
public final class LastCallTest {
    private static final byte[] ZERO = new byte[16];
    private static final List<byte[]> ITEMS = List.of(Check.bytes("f1f2f3f4"));
    private static final Check check = new Check();

    public static void main(String[] args) {
        check.sentence("An object is used for at most 512 calls after it has been made");
        answers();
        refusals();
        check.end();
    }

    private static void answers() {
        byte[] sealed = Reference.sealMarked(ZERO, ZERO, ITEMS, Check.bytes("a1a2a3a4 b1b2b3b4"));
        byte[] mark = Reference.joint(ZERO, ITEMS, sealed);
        lastAnswers("size", SealingDesk::size, 16);
        lastAnswers("at", desk -> desk.at(15), mark[15] & 255);
        lastAnswers("take", SealingDesk::take, 16);
        lastAnswers("feed", desk -> desk.feed(1, 4), 28);
        lastAnswers("item", SealingDesk::item, 2);
        lastAnswers("forget", SealingDesk::forget, 1);
        lastAnswers("seal 0", desk -> desk.seal(0), 40);
        lastAnswers("seal 1", desk -> desk.seal(1), 32);
        lastAnswers("seal 2", desk -> desk.seal(2), 32);
        lastAnswers("open 0", desk -> desk.open(0), 8);
        lastAnswers("open 1", desk -> desk.open(1), SealingDesk.NONE);
    }

    private static void refusals() {
        lastThrows("at", IndexOutOfBoundsException.class, desk -> desk.at(16));
        lastThrows("seal", IndexOutOfBoundsException.class, desk -> desk.seal(3));
        lastThrows("feed", IllegalArgumentException.class, desk -> desk.feed(0, 5));
    }

    /** A desk after 72 times 7 calls and 7 calls more: one item, an input of 24 bytes and its joint mark. */
    private static SealingDesk deskAfter511() {
        SealingDesk desk = new SealingDesk();
        for (int i = 0; i < 72; i++) {
            check.same("feed", desk.feed(i, 4), 4);
            check.same("item", desk.item(), 1);
            check.same("feed", desk.feed(i << 24, 1), 1);
            check.same("seal", desk.seal(0), 17);
            check.same("forget", desk.forget(), 1);
            check.same("take", desk.take(), 17);
            desk.drop();
        }
        desk.feed(0xf1f2f3f4, 4);
        desk.item();
        desk.feed(0xa1a2a3a4, 4);
        desk.feed(0xb1b2b3b4, 4);
        desk.seal(0);
        desk.take();
        desk.mark(true);
        return desk;
    }

    private static void lastAnswers(String what, ToIntFunction<SealingDesk> call, int due) {
        check.same("call 512, " + what, call.applyAsInt(deskAfter511()), due);
    }

    private static void lastThrows(String what, Class<? extends RuntimeException> due,
            ToIntFunction<SealingDesk> call) {
        SealingDesk desk = deskAfter511();
        check.throwing("call 512, " + what, due, () -> call.applyAsInt(desk));
    }
}
