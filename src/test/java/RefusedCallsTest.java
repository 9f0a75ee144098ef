import java.util.function.Consumer;

/**
 * "A call that throws changes nothing": each exception of each call, and behind it all that later calls show. The same
 * for an open that answers NONE, which leaves all as it was too.
 */
public final class RefusedCallsTest {
    private static final int[] FAR = {Integer.MIN_VALUE, Integer.MIN_VALUE + 1, Integer.MAX_VALUE};
    private static final Class<IndexOutOfBoundsException> INDEX = IndexOutOfBoundsException.class;
    private static final Class<IllegalArgumentException> ARGUMENT = IllegalArgumentException.class;
    private static final Class<IllegalStateException> STATE = IllegalStateException.class;
    private static final Check check = new Check();

    public static void main(String[] args) {
        check.sentence("A call that throws changes nothing");
        keys();
        feedOfWrongCount();
        feedOfTooMuch();
        alterWhereNoneIs();
        alterToNoByte();
        itemTooLong();
        itemTooMany();
        cipherOfAnotherLength();
        wrongWay();
        sealOfAnotherLength();
        openOfAnotherLength();
        atWhereNoneIs();
        check.sentence("otherwise the output stays, and it answers NONE");
        openOfWhatIsNotRight();
        check.end();
    }

    private static void refused(String what, Known known, Class<? extends RuntimeException> due,
            Consumer<SealingDesk> call) {
        String told = what + " with " + known.items.size() + " items, input " + known.input.length + ", output "
                + known.output.length;
        check.throwing(told, due, () -> call.accept(known.desk));
        check.throwing(told + " once more", due, () -> call.accept(known.desk));
        known.check(check, told);
    }

    private static int[] withFar(int... values) {
        int[] all = new int[values.length + FAR.length];
        System.arraycopy(values, 0, all, 0, values.length);
        System.arraycopy(FAR, 0, all, values.length, FAR.length);
        return all;
    }

    private static void keys() {
        for (int which : withFar(-2, -1, 2, 3)) {
            refused("key " + which, Known.desk(2, 20, 16), INDEX, desk -> desk.key(which, 5, 6, 7, 8));
        }
    }

    private static void feedOfWrongCount() {
        for (int n : withFar(-4, -1, 0, 5, 8)) {
            for (int input : new int[] {0, 20, 83, 88}) {
                refused("feed of " + n, Known.desk(1, input, 16), ARGUMENT, desk -> desk.feed(0x01020304, n));
            }
        }
    }

    private static void feedOfTooMuch() {
        for (int input = 85; input <= 88; input++) {
            for (int n = 89 - input; n <= 4; n++) {
                int count = n;
                refused("feed of " + n, Known.desk(1, input, 30), STATE, desk -> desk.feed(0x01020304, count));
            }
        }
    }

    private static void alterWhereNoneIs() {
        for (int input : new int[] {0, 1, 20, 87, 88}) {
            for (int k : withFar(-1, input, input + 1, 89)) {
                refused("alter at " + k, Known.desk(1, input, 80), INDEX, desk -> desk.alter(k, 7));
            }
        }
    }

    private static void alterToNoByte() {
        for (int b : withFar(-256, -1, 256, 511)) {
            for (int k : new int[] {0, 11, 19}) {
                refused("alter to " + b, Known.desk(1, 20, 16), ARGUMENT, desk -> desk.alter(k, b));
            }
        }
    }

    private static void itemTooLong() {
        for (int input : new int[] {41, 42, 48, 88}) {
            for (int items : new int[] {0, 1, 4}) {
                refused("item", Known.desk(items, input, 16), ARGUMENT, SealingDesk::item);
            }
        }
    }

    private static void itemTooMany() {
        for (int input : new int[] {0, 1, 16, 40}) {
            refused("item", Known.desk(5, input, 16), STATE, SealingDesk::item);
        }
    }

    private static void cipherOfAnotherLength() {
        for (int input : new int[] {0, 1, 8, 15, 17, 32, 88}) {
            for (int output : new int[] {0, 16, 80}) {
                refused("cipher", Known.desk(3, input, output), ARGUMENT, desk -> desk.cipher(false));
                refused("cipher back", Known.desk(3, input, output), ARGUMENT, desk -> desk.cipher(true));
            }
        }
    }

    private static void wrongWay() {
        for (int way : withFar(-2, -1, 3, 4)) {
            for (int input : new int[] {0, 16, 24, 88}) {
                refused("seal in way " + way, Known.desk(2, input, 40), INDEX, desk -> desk.seal(way));
                refused("open in way " + way, Known.desk(2, input, 40), INDEX, desk -> desk.open(way));
            }
        }
    }

    private static void sealOfAnotherLength() {
        refusedSeals(0, 65, 66, 72, 80, 88);
        refusedSeals(1, 0, 1, 7, 8, 9, 15, 17, 23, 25, 63, 65, 72, 80, 88);
        refusedSeals(2, 0, 65, 66, 72, 80, 88);
    }

    private static void refusedSeals(int way, int... inputs) {
        for (int input : inputs) {
            for (int output : new int[] {0, 16, 80}) {
                refused("seal in way " + way, Known.desk(2, input, output), ARGUMENT, desk -> desk.seal(way));
            }
        }
    }

    private static void openOfAnotherLength() {
        refusedOpens(0, 0, 1, 8, 14, 15, 81, 82, 88);
        refusedOpens(1, 0, 8, 15, 16, 17, 23, 25, 71, 73, 80, 88);
        refusedOpens(2, 0, 8, 15, 17, 20, 23, 25, 71, 73, 80, 88);
    }

    private static void refusedOpens(int way, int... inputs) {
        for (int input : inputs) {
            for (int output : new int[] {0, 16, 80}) {
                refused("open in way " + way, Known.desk(2, input, output), ARGUMENT, desk -> desk.open(way));
            }
        }
    }

    private static void atWhereNoneIs() {
        for (int output : new int[] {0, 1, 16, 64, 80}) {
            for (int k : withFar(-1, output, output + 1, 88)) {
                refused("at " + k, Known.desk(2, 30, output), INDEX, desk -> desk.at(k));
            }
        }
    }

    private static void openOfWhatIsNotRight() {
        for (int output : new int[] {0, 1, 16, 64, 80}) {
            notRight(0, output, 16, 17, 40, 80);
            notRight(1, output, 24, 40, 72);
            notRight(2, output, 16, 24, 40, 72);
        }
    }

    private static void notRight(int way, int output, int... inputs) {
        for (int input : inputs) {
            Known known = Known.desk(2, input, output);
            String what = "open in way " + way + " of " + input;
            check.same(what, known.desk.open(way), SealingDesk.NONE);
            check.same(what + " once more", known.desk.open(way), SealingDesk.NONE);
            known.check(check, what);
        }
    }
}
