import java.util.Arrays;
import java.util.HexFormat;

/** Counts and prints what is not as due, and has the small helpers that the tests share. */
final class Check {
    private int wrong = 0;
    private String sentence = "";

    /** What follows tests these words of the document; they stand before each failure. */
    void sentence(String words) {
        sentence = "[" + words + "] ";
    }

    void same(String what, long got, long want) {
        if (got != want) {
            fail(what + ": got " + got + ", due is " + want);
        }
    }

    void same(String what, byte[] got, byte[] want) {
        if (!Arrays.equals(got, want)) {
            fail(what + ": got " + text(got) + ", due is " + text(want));
        }
    }

    void outputIs(String what, SealingDesk desk, byte[] want) {
        same(what, output(desk), want);
    }

    void throwing(String what, Class<? extends RuntimeException> due, Runnable call) {
        try {
            call.run();
        } catch (RuntimeException e) {
            if (e.getClass() != due) {
                fail(what + ": threw " + e + ", due is " + due.getSimpleName());
            }
            return;
        }
        fail(what + ": threw nothing, due is " + due.getSimpleName());
    }

    void fail(String text) {
        wrong++;
        System.out.println(sentence + text);
    }

    void end() {
        System.out.println(wrong == 0 ? "all as due" : wrong + " not as due");
        if (wrong != 0) {
            System.exit(1);
        }
    }

    static byte[] bytes(String hex) {
        return HexFormat.of().parseHex(hex.replace(" ", ""));
    }

    /** So many bytes, 88 at most, that all differ from one another and from 0. */
    static byte[] some(int length) {
        byte[] row = new byte[length];
        for (int k = 0; k < length; k++) {
            row[k] = (byte) (37 * k + 11);
        }
        return row;
    }

    static byte[] filled(int length, int b) {
        byte[] row = new byte[length];
        Arrays.fill(row, (byte) b);
        return row;
    }

    static byte[] join(byte[]... parts) {
        byte[] all = new byte[0];
        for (byte[] part : parts) {
            int from = all.length;
            all = Arrays.copyOf(all, from + part.length);
            System.arraycopy(part, 0, all, from, part.length);
        }
        return all;
    }

    static byte[] flipped(byte[] row, int place, int bits) {
        byte[] copy = row.clone();
        copy[place] ^= (byte) bits;
        return copy;
    }

    static int word(byte[] row, int from) {
        int word = 0;
        for (int k = 0; k < 4; k++) {
            word = word << 8 | (from + k < row.length ? row[from + k] & 255 : 0);
        }
        return word;
    }

    static void setKey(SealingDesk desk, int which, byte[] key) {
        desk.key(which, word(key, 0), word(key, 4), word(key, 8), word(key, 12));
    }

    static void setInput(SealingDesk desk, byte[] row) {
        desk.drop();
        for (int k = 0; k < row.length; k += 4) {
            desk.feed(word(row, k), Math.min(4, row.length - k));
        }
    }

    static void addItem(SealingDesk desk, byte[] row) {
        setInput(desk, row);
        desk.item();
    }

    static byte[] output(SealingDesk desk) {
        byte[] row = new byte[desk.size()];
        for (int k = 0; k < row.length; k++) {
            row[k] = (byte) desk.at(k);
        }
        return row;
    }

    static SealingDesk deskWith(byte[] key0, byte[] key1) {
        SealingDesk desk = new SealingDesk();
        setKey(desk, 0, key0);
        setKey(desk, 1, key1);
        return desk;
    }

    static String text(byte[] row) {
        return row == null ? "nothing" : row.length + " bytes " + HexFormat.of().formatHex(row);
    }
}
