import java.util.Arrays;
import java.util.List;
import java.util.function.Consumer;

/** The edges of each call, promise by promise: the first and the last that is taken, empty and full. */
public final class CallsTest {
    private static final byte[] ZERO = new byte[16];
    private static final byte[] KEY0 = Known.KEY0;
    private static final byte[] KEY1 = Known.KEY1;
    private static final Check check = new Check();

    public static void main(String[] args) {
        newObject();
        objectsApart();
        firstAndLastKey();
        keysApart();
        noOtherKey();
        feedCounts();
        feedUpToFull();
        dropFullAndEmpty();
        alterFirstAndLast();
        alterToFirstAndLastByte();
        itemOfForty();
        fiveItems();
        itemIsACopy();
        forgetNoneAndAll();
        cipherOfSixteen();
        markOfAnyInput();
        ways();
        openOfNothing();
        sizes();
        placesOfTheOutput();
        takeInPlace();
        takeOfNothing();
        takeAndFeedUpToFull();
        check.end();
    }

    private static void newObject() {
        check.sentence("Keys of 0, input and output empty, no items");
        newDesk("size", desk -> check.same("size", desk.size(), 0));
        newDesk("at", desk -> check.throwing("at(0)", IndexOutOfBoundsException.class, () -> desk.at(0)));
        newDesk("take", desk -> check.same("take", desk.take(), 0));
        newDesk("forget", desk -> check.same("forget", desk.forget(), 0));
        newDesk("feed", desk -> check.same("feed", desk.feed(1, 1), 1));
        newDesk("item", desk -> check.same("item", desk.item(), 1));
        newDesk("alter", desk -> check.throwing("alter", IndexOutOfBoundsException.class, () -> desk.alter(0, 0)));
        newDesk("cipher", desk -> check.throwing("cipher", IllegalArgumentException.class, () -> desk.cipher(false)));
        newDesk("seal 1", desk -> check.throwing("seal 1", IllegalArgumentException.class, () -> desk.seal(1)));
        newDesk("seal 2", desk -> check.throwing("seal 2", IllegalArgumentException.class, () -> desk.seal(2)));
        newDesk("open 0", desk -> check.throwing("open 0", IllegalArgumentException.class, () -> desk.open(0)));
        newDesk("mark", desk -> {
            desk.mark(false);
            check.outputIs("mark", desk, Reference.mark(ZERO, new byte[0]));
        });
        newDesk("joint mark", desk -> {
            desk.mark(true);
            check.outputIs("joint mark", desk, Reference.joint(ZERO, List.of(), new byte[0]));
        });
        newDesk("seal 0", desk -> {
            check.same("seal 0", desk.seal(0), 16);
            check.outputIs("seal 0", desk, Reference.joint(ZERO, List.of(), new byte[0]));
        });
    }

    /** A call as the first one, on a new object; behind it the keys are still of 0. */
    private static void newDesk(String what, Consumer<SealingDesk> call) {
        SealingDesk desk = new SealingDesk();
        call.accept(desk);
        desk.forget();
        Check.setInput(desk, Check.some(17));
        desk.seal(0);
        check.outputIs("keys of 0 behind " + what, desk, Reference.sealMarked(ZERO, ZERO, List.of(), Check.some(17)));
    }

    private static void objectsApart() {
        SealingDesk first = new SealingDesk();
        Known known = Known.desk(3, 20, 30);
        SealingDesk last = new SealingDesk();
        for (SealingDesk desk : new SealingDesk[] {first, last}) {
            check.same("size of another one", desk.size(), 0);
            check.same("items of another one", desk.forget(), 0);
            desk.key(0, 9, 9, 9, 9);
            desk.key(1, 8, 8, 8, 8);
            Check.addItem(desk, Check.some(4));
            Check.setInput(desk, Check.some(40));
            desk.seal(0);
        }
        known.check(check, "calls of other objects");
    }

    private static void firstAndLastKey() {
        check.sentence("Key which (0 or 1) becomes the bytes of four words");
        SealingDesk desk = new SealingDesk();
        Check.setKey(desk, 0, KEY0);
        sealsBy(desk, KEY0, ZERO);
        Check.setKey(desk, 1, KEY1);
        sealsBy(desk, KEY0, KEY1);
        Check.setKey(desk, 0, ZERO);
        sealsBy(desk, ZERO, KEY1);
        Check.setKey(desk, 1, Check.filled(16, 255));
        sealsBy(desk, ZERO, Check.filled(16, 255));
    }

    private static void noOtherKey() {
        check.sentence("IndexOutOfBoundsException when which is another one");
        Known known = Known.desk(2, 20, 30);
        check.throwing("key -1", IndexOutOfBoundsException.class, () -> known.desk.key(-1, 1, 2, 3, 4));
        check.throwing("key 2", IndexOutOfBoundsException.class, () -> known.desk.key(2, 1, 2, 3, 4));
        known.check(check, "keys -1 and 2");
    }

    private static void sealsBy(SealingDesk desk, byte[] key0, byte[] key1) {
        Check.setInput(desk, Check.some(33));
        desk.seal(0);
        check.outputIs("seal", desk, Reference.sealMarked(key0, key1, List.of(), Check.some(33)));
    }

    private static void keysApart() {
        Known known = Known.desk(2, 20, 30);
        known.desk.key(0, 1, 2, 3, 4);
        known.desk.key(1, 5, 6, 7, 8);
        Check.setKey(known.desk, 1, KEY1);
        Check.setKey(known.desk, 0, KEY0);
        known.check(check, "keys there and back");
    }

    private static void feedCounts() {
        check.sentence("IllegalArgumentException when n is not 1 .. 4");
        Known known = Known.desk(1, 20, 30);
        SealingDesk desk = known.desk;
        check.throwing("feed of 0", IllegalArgumentException.class, () -> desk.feed(-1, 0));
        check.same("feed of 1", desk.feed(0xf1f2f3f4, 1), 21);
        check.same("feed of 4", desk.feed(0x05060708, 4), 25);
        check.throwing("feed of 5", IllegalArgumentException.class, () -> desk.feed(-1, 5));
        check.same("feed of 2", desk.feed(0x00ff1122, 2), 27);
        check.same("feed of 3", desk.feed(0x80008011, 3), 30);
        known.input = Check.join(Check.some(20), Check.bytes("f1 05060708 00ff 800080"));
        known.check(check, "feeds of 1 .. 4");
    }

    private static void feedUpToFull() {
        check.sentence("IllegalStateException when there would be more than 88");
        for (int n = 1; n <= 4; n++) {
            int count = n;
            Known known = Known.desk(1, 88 - n, 30);
            check.same("feed of " + n + " up to 88", known.desk.feed(0x81828384, n), 88);
            byte[] more = Arrays.copyOf(Check.bytes("81828384"), n);
            known.input = Check.join(Check.some(88 - n), more);
            check.throwing("1 more than 88", IllegalStateException.class, () -> known.desk.feed(-1, 1));
            known.check(check, "a full input");
            Known nearly = Known.desk(1, 89 - n, 30);
            check.throwing("feed of " + n + " up to 89", IllegalStateException.class,
                    () -> nearly.desk.feed(0x81828384, count));
            nearly.check(check, "89 would be too much");
        }
    }

    private static void dropFullAndEmpty() {
        check.sentence("The input is empty");
        for (int length : new int[] {0, 1, 87, 88}) {
            Known known = Known.desk(2, length, 30);
            known.desk.drop();
            check.throwing("no byte is left", IndexOutOfBoundsException.class, () -> known.desk.alter(0, 1));
            known.input = new byte[0];
            known.check(check, "drop of " + length);
            Known again = Known.desk(2, length, 30);
            again.desk.drop();
            again.desk.drop();
            again.setInput(Check.some(88));
            check.throwing("full again", IllegalStateException.class, () -> again.desk.feed(-1, 1));
            again.check(check, "drop, and full again");
        }
    }

    private static void alterFirstAndLast() {
        check.sentence("IndexOutOfBoundsException when there is none");
        for (int length : new int[] {1, 2, 16, 87, 88}) {
            for (int k : new int[] {0, length / 2, length - 1}) {
                Known known = Known.desk(1, length, 30);
                known.desk.alter(k, 200);
                known.input[k] = (byte) 200;
                check.throwing("alter at -1", IndexOutOfBoundsException.class, () -> known.desk.alter(-1, 9));
                check.throwing("alter behind", IndexOutOfBoundsException.class, () -> known.desk.alter(length, 9));
                known.check(check, "alter at " + k + " of " + length);
            }
        }
    }

    private static void alterToFirstAndLastByte() {
        check.sentence("IllegalArgumentException when b is not 0 .. 255");
        for (int b : new int[] {0, 1, 127, 128, 254, 255}) {
            Known known = Known.desk(1, 20, 30);
            known.desk.alter(7, b);
            known.input[7] = (byte) b;
            check.throwing("alter to -1", IllegalArgumentException.class, () -> known.desk.alter(7, -1));
            check.throwing("alter to 256", IllegalArgumentException.class, () -> known.desk.alter(7, 256));
            known.check(check, "alter to " + b);
        }
    }

    private static void itemOfForty() {
        check.sentence("IllegalArgumentException when it has more than 40 bytes");
        for (int length : new int[] {0, 1, 16, 39, 40}) {
            Known known = Known.desk(0, length, 30);
            check.same("item of " + length, known.desk.item(), 1);
            known.items.add(known.input);
            known.input = new byte[0];
            known.check(check, "item of " + length);
        }
        Known known = Known.desk(0, 41, 30);
        check.throwing("item of 41", IllegalArgumentException.class, known.desk::item);
        known.check(check, "item of 41");
    }

    private static void fiveItems() {
        check.sentence("IllegalStateException when there are 5");
        for (int length : new int[] {0, 40}) {
            Known known = Known.desk(4, length, 30);
            check.same("a fifth item", known.desk.item(), 5);
            known.items.add(known.input);
            known.setInput(Check.some(length));
            check.throwing("a sixth item", IllegalStateException.class, known.desk::item);
            known.check(check, "five items");
        }
        Known known = Known.desk(5, 12, 30);
        check.same("forget", known.desk.forget(), 5);
        known.items.clear();
        for (int count = 1; count <= 5; count++) {
            check.same("an item behind forget", known.desk.item(), count);
            known.items.add(known.input);
            known.setInput(Check.some(12 + count));
        }
        check.throwing("a sixth item behind forget", IllegalStateException.class, known.desk::item);
        known.check(check, "five items behind forget");
    }

    private static void itemIsACopy() {
        check.sentence("The input becomes one more item, and is empty then");
        Known known = Known.desk(1, 30, 30);
        check.same("item", known.desk.item(), 2);
        known.items.add(known.input);
        check.throwing("no input is left", IndexOutOfBoundsException.class, () -> known.desk.alter(0, 0));
        known.setInput(Check.filled(25, 9));
        known.desk.alter(0, 77);
        known.input[0] = 77;
        known.check(check, "another input behind an item");
    }

    private static void forgetNoneAndAll() {
        check.sentence("All items go; answers how many there were");
        for (int count = 0; count <= 5; count++) {
            Known known = Known.desk(count, 20, 30);
            check.same("forget of " + count, known.desk.forget(), count);
            check.same("forget once more", known.desk.forget(), 0);
            known.items.clear();
            known.check(check, "forget of " + count);
        }
    }

    private static void cipherOfSixteen() {
        check.sentence("IllegalArgumentException when the input has not 16 bytes");
        for (int output : new int[] {0, 16, 80}) {
            Known forth = Known.desk(2, 16, output);
            forth.desk.cipher(false);
            forth.output = Reference.encipher(KEY0, forth.input);
            forth.check(check, "cipher of 16");
            Known back = Known.desk(2, 16, output);
            back.desk.cipher(true);
            back.output = Reference.decipher(KEY0, back.input);
            back.check(check, "cipher back of 16");
        }
        for (int length : new int[] {15, 17}) {
            SealingDesk desk = Known.desk(2, length, 0).desk;
            check.throwing("cipher", IllegalArgumentException.class, () -> desk.cipher(false));
            check.throwing("cipher back", IllegalArgumentException.class, () -> desk.cipher(true));
        }
    }

    private static void markOfAnyInput() {
        check.sentence("The output becomes the mark of the input by key 0; or, when joint, the joint mark");
        for (int length : new int[] {0, 1, 15, 16, 17, 63, 64, 65, 80, 87, 88}) {
            for (int items : new int[] {0, 1, 5}) {
                Known alone = Known.desk(items, length, 80);
                alone.desk.mark(false);
                alone.output = Reference.mark(KEY0, alone.input);
                alone.check(check, "mark of " + length);
                Known joint = Known.desk(items, length, 80);
                joint.desk.mark(true);
                joint.output = Reference.joint(KEY0, joint.items, joint.input);
                joint.check(check, "joint mark of " + length);
            }
        }
    }

    private static void ways() {
        check.sentence("IndexOutOfBoundsException when way is not 0 .. 2");
        SealingDesk desk = Known.desk(0, 16, 0).desk;
        check.throwing("seal -1", IndexOutOfBoundsException.class, () -> desk.seal(-1));
        check.same("seal 0", desk.seal(0), 32);
        check.same("seal 1", desk.seal(1), 24);
        check.same("seal 2", desk.seal(2), 24);
        check.throwing("seal 3", IndexOutOfBoundsException.class, () -> desk.seal(3));
        desk.take();
        check.throwing("open -1", IndexOutOfBoundsException.class, () -> desk.open(-1));
        check.same("open 0", desk.open(0), SealingDesk.NONE);
        check.same("open 1", desk.open(1), SealingDesk.NONE);
        check.same("open 2", desk.open(2), 16);
        check.throwing("open 3", IndexOutOfBoundsException.class, () -> desk.open(3));
    }

    private static void openOfNothing() {
        check.sentence("if it is right, the output is what comes, and its length is answered");
        Known known = Known.desk(2, 0, 80);
        check.same("seal of nothing", known.desk.seal(0), 16);
        check.same("take of it", known.desk.take(), 16);
        check.same("open of it", known.desk.open(0), 0);
        known.input = Reference.joint(KEY0, known.items, new byte[0]);
        known.output = new byte[0];
        known.check(check, "open of nothing");
    }

    private static void sizes() {
        check.sentence("How many bytes the output has");
        for (int size : new int[] {0, 1, 15, 16, 17, 63, 64, 80}) {
            check.same("size", Known.desk(1, 20, size).desk.size(), size);
        }
    }

    private static void placesOfTheOutput() {
        check.sentence("Byte k of the output. IndexOutOfBoundsException when there is none");
        SealingDesk desk = Known.desk(0, 64, 0).desk;
        check.throwing("at 0 of none", IndexOutOfBoundsException.class, () -> desk.at(0));
        byte[] sealed = Reference.sealMarked(KEY0, KEY1, List.of(), Check.some(64));
        desk.seal(0);
        placesAre(desk, sealed);
        desk.mark(false);
        placesAre(desk, Reference.mark(KEY0, Check.some(64)));
        Check.setInput(desk, Reference.sealPadded(KEY0, Check.bytes("80")));
        desk.open(2);
        placesAre(desk, Check.bytes("80"));
    }

    private static void placesAre(SealingDesk desk, byte[] due) {
        check.throwing("at -1", IndexOutOfBoundsException.class, () -> desk.at(-1));
        check.same("at 0", desk.at(0), due[0] & 255);
        check.same("at the last", desk.at(due.length - 1), due[due.length - 1] & 255);
        for (int k = due.length; k < 90; k++) {
            int place = k;
            check.throwing("at " + k + " of " + due.length, IndexOutOfBoundsException.class, () -> desk.at(place));
        }
    }

    private static void takeInPlace() {
        check.sentence("The input becomes what the output is (in place of what it was; the output stays)");
        for (int output : new int[] {1, 16, 64, 80}) {
            for (int input : new int[] {0, 1, 88}) {
                Known known = Known.desk(2, input, output);
                check.same("take of " + output, known.desk.take(), output);
                check.same("take once more", known.desk.take(), output);
                known.input = known.output.clone();
                known.desk.alter(output - 1, 3);
                known.input[output - 1] = 3;
                known.check(check, "take of " + output + " in place of " + input);
            }
        }
        Known known = Known.desk(2, 5, 64);
        known.desk.take();
        known.desk.mark(false);
        known.input = known.output;
        known.output = Reference.mark(KEY0, known.input);
        known.check(check, "another output behind take");
    }

    private static void takeOfNothing() {
        for (int input : new int[] {0, 1, 88}) {
            Known known = Known.desk(2, input, 0);
            check.same("take of nothing", known.desk.take(), 0);
            check.throwing("no byte is left", IndexOutOfBoundsException.class, () -> known.desk.alter(0, 1));
            known.input = new byte[0];
            known.check(check, "take of nothing in place of " + input);
        }
    }

    private static void takeAndFeedUpToFull() {
        Known known = Known.desk(2, 3, 80);
        check.same("take of 80", known.desk.take(), 80);
        check.same("feed behind it", known.desk.feed(0x01020304, 4), 84);
        check.same("feed up to 88", known.desk.feed(0x05060708, 4), 88);
        check.throwing("feed of 1 more", IllegalStateException.class, () -> known.desk.feed(-1, 1));
        known.input = Check.join(known.output, Check.bytes("01020304 05060708"));
        known.check(check, "take, and full");
    }
}
