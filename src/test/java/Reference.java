import java.math.BigInteger;
import java.security.GeneralSecurityException;
import java.util.Arrays;
import java.util.List;
import javax.crypto.Cipher;
import javax.crypto.spec.IvParameterSpec;
import javax.crypto.spec.SecretKeySpec;

/** The document's cipher, marks and ways once more, made of the Java library's own ciphers. */
final class Reference {
    private static final BigInteger ROW = BigInteger.ONE.shiftLeft(128);

    private Reference() {
    }

    private static byte[] run(String name, int mode, byte[] key, byte[] iv, byte[] row)
            throws GeneralSecurityException {
        Cipher cipher = Cipher.getInstance(name);
        SecretKeySpec spec = new SecretKeySpec(key, "AES");
        if (iv == null) {
            cipher.init(mode, spec);
        } else {
            cipher.init(mode, spec, new IvParameterSpec(iv));
        }
        return cipher.doFinal(row);
    }

    private static byte[] must(String name, int mode, byte[] key, byte[] iv, byte[] row) {
        try {
            return run(name, mode, key, iv, row);
        } catch (GeneralSecurityException e) {
            throw new IllegalStateException(e);
        }
    }

    private static byte[] orNull(String name, byte[] key, byte[] row) {
        try {
            return run(name, Cipher.DECRYPT_MODE, key, null, row);
        } catch (GeneralSecurityException e) {
            return null;
        }
    }

    static byte[] encipher(byte[] key, byte[] block) {
        return must("AES/ECB/NoPadding", Cipher.ENCRYPT_MODE, key, null, block);
    }

    static byte[] decipher(byte[] key, byte[] block) {
        return must("AES/ECB/NoPadding", Cipher.DECRYPT_MODE, key, null, block);
    }

    static byte[] doubled(byte[] row) {
        BigInteger twice = new BigInteger(1, row).shiftLeft(1);
        if (twice.testBit(128)) {
            twice = twice.mod(ROW).xor(BigInteger.valueOf(135));
        }
        return rowOf(twice);
    }

    private static byte[] rowOf(BigInteger number) {
        byte[] raw = number.mod(ROW).toByteArray();
        byte[] row = new byte[16];
        for (int k = 0; k < 16 && k < raw.length; k++) {
            row[15 - k] = raw[raw.length - 1 - k];
        }
        return row;
    }

    static byte[] mark(byte[] key, byte[] row) {
        byte[] twist = doubled(encipher(key, new byte[16]));
        byte[] full = row;
        if (row.length == 0 || row.length % 16 != 0) {
            twist = doubled(twist);
            full = Arrays.copyOf(row, row.length / 16 * 16 + 16);
            full[row.length] = (byte) 128;
        }
        byte[] chained = must("AES/CBC/NoPadding", Cipher.ENCRYPT_MODE, key, new byte[16], withEnd(full, twist));
        return Arrays.copyOfRange(chained, chained.length - 16, chained.length);
    }

    private static byte[] withEnd(byte[] row, byte[] block) {
        byte[] copy = row.clone();
        for (int k = 0; k < 16; k++) {
            copy[row.length - 16 + k] ^= block[k];
        }
        return copy;
    }

    private static byte[] jointSum(byte[] key, List<byte[]> items) {
        byte[] sum = mark(key, new byte[16]);
        for (byte[] item : items) {
            sum = withEnd(doubled(sum), mark(key, item));
        }
        return sum;
    }

    /** The item that makes D, behind no other item, these 16 bytes. */
    static byte[] itemForSum(byte[] key, byte[] sum) {
        return blockWithMark(key, withEnd(doubled(jointSum(key, List.of())), sum));
    }

    static byte[] joint(byte[] key, List<byte[]> items, byte[] row) {
        byte[] sum = jointSum(key, items);
        if (row.length >= 16) {
            return mark(key, withEnd(row, sum));
        }
        byte[] padded = Arrays.copyOf(row, 16);
        padded[row.length] = (byte) 128;
        return mark(key, withEnd(padded, doubled(sum)));
    }

    /** The block that has this mark. */
    static byte[] blockWithMark(byte[] key, byte[] mark) {
        return withEnd(decipher(key, mark), doubled(encipher(key, new byte[16])));
    }

    /** The bytes, of full blocks or none, and one block more, so that all have this joint mark. */
    static byte[] rowWithJoint(byte[] key, List<byte[]> items, byte[] front, byte[] mark) {
        byte[] last = withEnd(blockWithMark(key, mark), jointSum(key, items));
        if (front.length > 0) {
            byte[] chained = must("AES/CBC/NoPadding", Cipher.ENCRYPT_MODE, key, new byte[16], front);
            last = withEnd(last, Arrays.copyOfRange(chained, chained.length - 16, chained.length));
        }
        return Check.join(front, last);
    }

    private static byte[] streamed(byte[] key, byte[] mark, byte[] row) {
        byte[] counter = mark.clone();
        counter[8] &= 127;
        counter[12] &= 127;
        return row.length == 0 ? row : must("AES/CTR/NoPadding", Cipher.ENCRYPT_MODE, key, counter, row);
    }

    static byte[] sealMarked(byte[] key0, byte[] key1, List<byte[]> items, byte[] row) {
        return sealMarkedBehind(key1, joint(key0, items, row), row);
    }

    /** As MARKED, but with any V in front: to make what has to be refused. */
    static byte[] sealMarkedBehind(byte[] key1, byte[] mark, byte[] row) {
        return Check.join(mark, streamed(key1, mark, row));
    }

    /** Null for what is not right, here and below. */
    static byte[] openMarked(byte[] key0, byte[] key1, List<byte[]> items, byte[] sealed) {
        byte[] mark = Arrays.copyOf(sealed, 16);
        byte[] row = streamed(key1, mark, Arrays.copyOfRange(sealed, 16, sealed.length));
        return Arrays.equals(joint(key0, items, row), mark) ? row : null;
    }

    static byte[] sealWrapped(byte[] key, byte[] row) {
        return must("AES/KW/NoPadding", Cipher.ENCRYPT_MODE, key, null, row);
    }

    /** As WRAPPED, or for 8 bytes by the cipher alone, but with any A in front: to make what has to be refused. */
    static byte[] sealBehind(byte[] key, byte[] a, byte[] row) {
        if (row.length == 8) {
            return encipher(key, Check.join(a, row));
        }
        return must("AES/KW/NoPadding", Cipher.ENCRYPT_MODE, key, a, row);
    }

    static byte[] openWrapped(byte[] key, byte[] sealed) {
        return orNull("AES/KW/NoPadding", key, sealed);
    }

    static byte[] sealPadded(byte[] key, byte[] row) {
        return must("AES/KWP/NoPadding", Cipher.ENCRYPT_MODE, key, null, row);
    }

    static byte[] openPadded(byte[] key, byte[] sealed) {
        return orNull("AES/KWP/NoPadding", key, sealed);
    }
}
