import java.util.ArrayList;
import java.util.Arrays;
import java.util.List;

/** The document's desk once more, plainly, over the reference; wrong calls are told by a text. */
final class Model {
    private final byte[][] keys = {new byte[16], new byte[16]};
    private final List<byte[]> items = new ArrayList<>();
    private byte[] input = new byte[0];
    byte[] output = new byte[0];

    String key(int which, byte[] key) {
        if (which != 0 && which != 1) {
            return "IndexOutOfBoundsException";
        }
        keys[which] = key;
        return "done";
    }

    String feed(int word, int n) {
        if (n < 1 || n > 4) {
            return "IllegalArgumentException";
        }
        if (input.length + n > 88) {
            return "IllegalStateException";
        }
        byte[] four = {(byte) (word >> 24), (byte) (word >> 16), (byte) (word >> 8), (byte) word};
        input = Check.join(input, Arrays.copyOf(four, n));
        return "" + input.length;
    }

    String drop() {
        input = new byte[0];
        return "done";
    }

    String alter(int k, int b) {
        if (k < 0 || k >= input.length) {
            return "IndexOutOfBoundsException";
        }
        if (b < 0 || b > 255) {
            return "IllegalArgumentException";
        }
        input = input.clone();
        input[k] = (byte) b;
        return "done";
    }

    String item() {
        if (input.length > 40) {
            return "IllegalArgumentException";
        }
        if (items.size() == 5) {
            return "IllegalStateException";
        }
        items.add(input);
        input = new byte[0];
        return "" + items.size();
    }

    String forget() {
        int count = items.size();
        items.clear();
        return "" + count;
    }

    String cipher(boolean back) {
        if (input.length != 16) {
            return "IllegalArgumentException";
        }
        output = back ? Reference.decipher(keys[0], input) : Reference.encipher(keys[0], input);
        return "done";
    }

    String mark(boolean joint) {
        output = joint ? Reference.joint(keys[0], items, input) : Reference.mark(keys[0], input);
        return "done";
    }

    String seal(int way) {
        if (way < 0 || way > 2) {
            return "IndexOutOfBoundsException";
        }
        int length = input.length;
        if (length > 64 || way == 1 && (length < 16 || length % 8 != 0) || way == 2 && length == 0) {
            return "IllegalArgumentException";
        }
        switch (way) {
            case 0 -> output = Reference.sealMarked(keys[0], keys[1], items, input);
            case 1 -> output = Reference.sealWrapped(keys[0], input);
            default -> output = Reference.sealPadded(keys[0], input);
        }
        return "" + output.length;
    }

    String open(int way) {
        if (way < 0 || way > 2) {
            return "IndexOutOfBoundsException";
        }
        int length = input.length;
        if (length < 16 || length > 80 || way != 0 && (length > 72 || length % 8 != 0) || way == 1 && length < 24) {
            return "IllegalArgumentException";
        }
        byte[] opened = switch (way) {
            case 0 -> Reference.openMarked(keys[0], keys[1], items, input);
            case 1 -> Reference.openWrapped(keys[0], input);
            default -> Reference.openPadded(keys[0], input);
        };
        if (opened == null) {
            return "-1";
        }
        output = opened;
        return "" + output.length;
    }

    String take() {
        input = output;
        return "" + input.length;
    }
}
