import java.util.ArrayList;
import java.util.List;

/** Promises 6 and 7: item, forget. The items are seen by the joint mark. */
public final class ItemsTest {
    private static final byte[] KEY = Check.bytes("2b7e1516 28aed2a6 abf71588 09cf4f3c");
    private static final Check check = new Check();

    public static void main(String[] args) {
        fiveItems();
        longItems();
        forgetting();
        check.end();
    }

    private static SealingDesk desk() {
        return Check.deskWith(KEY, new byte[16]);
    }

    private static void itemsAre(String what, SealingDesk desk, List<byte[]> items, byte[] input) {
        desk.mark(true);
        check.outputIs(what, desk, Reference.joint(KEY, items, input));
    }

    private static void fiveItems() {
        SealingDesk desk = desk();
        List<byte[]> items = new ArrayList<>();
        int[] lengths = {0, 16, 7, 40, 33};
        for (int i = 0; i < lengths.length; i++) {
            byte[] item = Check.some(lengths[i]);
            Check.setInput(desk, item);
            check.same("item " + i, desk.item(), i + 1);
            items.add(item);
            itemsAre("joint mark with empty input and items " + (i + 1), desk, items, new byte[0]);
        }
        check.throwing("a sixth item, empty", IllegalStateException.class, desk::item);
        Check.setInput(desk, Check.some(40));
        check.throwing("a sixth item of 40", IllegalStateException.class, desk::item);
        itemsAre("the input stays at a sixth item", desk, items, Check.some(40));
        Check.setInput(desk, Check.some(41));
        check.throwing("a sixth item of 41", IllegalArgumentException.class, desk::item);
        itemsAre("the input stays at a sixth item of 41", desk, items, Check.some(41));
    }

    private static void longItems() {
        SealingDesk desk = desk();
        for (int length : new int[] {41, 48, 88}) {
            Check.setInput(desk, Check.some(length));
            check.throwing("item of " + length, IllegalArgumentException.class, desk::item);
            itemsAre("state after item of " + length, desk, List.of(), Check.some(length));
        }
        byte[] output = Check.output(desk);
        Check.setInput(desk, Check.some(40));
        check.same("item of 40", desk.item(), 1);
        check.outputIs("item leaves the output", desk, output);
        check.same("input after an item", desk.feed(1, 1), 1);
    }

    private static void forgetting() {
        SealingDesk desk = desk();
        check.same("forget of none", desk.forget(), 0);
        for (int count = 1; count <= 5; count++) {
            for (int i = 0; i < count; i++) {
                Check.addItem(desk, Check.some(3 * i + count));
            }
            Check.setInput(desk, Check.some(21));
            check.same("forget of " + count, desk.forget(), count);
            check.same("forget again", desk.forget(), 0);
            itemsAre("after forget the input stays", desk, List.of(), Check.some(21));
        }
        Check.addItem(desk, Check.some(2));
        itemsAre("an item after forget", desk, List.of(Check.some(2)), new byte[0]);
    }
}
