import java.util.Arrays;

/**
 * A desk that seals bytes with keys and opens them again, in three ways.
 *
 * <p>Every row that a call needs is made with the desk and used again, so no call makes an object but the exception
 * that it throws.
 */
public final class SealingDesk {

    public static final int NONE = -1;

    private static final int INPUT_LIMIT = 88;
    private static final int ITEM_LIMIT = 40;
    private static final int ITEMS_LIMIT = 5;
    private static final int PLAIN_LIMIT = 64;
    private static final int BLOCK = 16;
    private static final int HALF = 8;

    private final Cipher[] ciphers;
    private final Marker marker;
    private final Way[] ways;
    private final Items items;
    private final Row input;
    private final Row output;
    private final Row opened;

    public SealingDesk() {
        Tables tables = new Tables();
        Cipher first = new Cipher(tables);
        Cipher second = new Cipher(tables);
        Wrapping wrapping = new Wrapping(first);
        Marker joiner = new Marker(first);
        Items none = new Items();
        ciphers = new Cipher[] {first, second};
        marker = joiner;
        items = none;
        ways = new Way[] {new Marked(joiner, none, second), new Wrapped(wrapping), new Padded(wrapping, first)};
        input = new Row();
        output = new Row();
        opened = new Row();
    }

    public void key(int which, int a, int b, int c, int d) throws IndexOutOfBoundsException {
        if (which < 0 || which >= ciphers.length) {
            throw new IndexOutOfBoundsException("there are keys 0 and 1 alone");
        }
        ciphers[which].use(a, b, c, d);
    }

    public int feed(int word, int n) throws IllegalArgumentException, IllegalStateException {
        if (n < 1 || n > 4) {
            throw new IllegalArgumentException("a word gives 1 to 4 bytes");
        }
        if (input.length + n > INPUT_LIMIT) {
            throw new IllegalStateException("the input would be too long");
        }
        for (int k = 0; k < n; k++) {
            input.add(byteOf(word, k));
        }
        return input.length;
    }

    public void drop() {
        input.clear();
    }

    public void alter(int k, int b) throws IndexOutOfBoundsException, IllegalArgumentException {
        if (!input.has(k)) {
            throw new IndexOutOfBoundsException("the input has no such byte");
        }
        if (b < 0 || b > 255) {
            throw new IllegalArgumentException("bytes are 0 to 255");
        }
        input.bytes[k] = b;
    }

    public int item() throws IllegalArgumentException, IllegalStateException {
        if (input.length > ITEM_LIMIT) {
            throw new IllegalArgumentException("the input is too long for an item");
        }
        if (items.count >= ITEMS_LIMIT) {
            throw new IllegalStateException("there are as many items as there may be");
        }
        items.rows[items.count].become(input);
        items.count++;
        input.clear();
        return items.count;
    }

    public int forget() {
        int before = items.count;
        items.count = 0;
        return before;
    }

    public void cipher(boolean back) throws IllegalArgumentException {
        if (input.length != BLOCK) {
            throw new IllegalArgumentException("the cipher takes 16 bytes");
        }
        output.become(input);
        if (back) {
            ciphers[0].turnBack(output.bytes);
        } else {
            ciphers[0].turn(output.bytes);
        }
    }

    public void mark(boolean joint) {
        if (joint) {
            marker.join(items, input, output.bytes);
        } else {
            marker.markRow(input, output.bytes);
        }
        output.length = BLOCK;
    }

    public int seal(int way) throws IndexOutOfBoundsException, IllegalArgumentException {
        if (way < 0 || way >= ways.length) {
            throw new IndexOutOfBoundsException("there are ways 0 to 2 alone");
        }
        if (!ways[way].canLock(input.length)) {
            throw new IllegalArgumentException("this way does not seal so many bytes");
        }
        ways[way].lock(input, output);
        return output.length;
    }

    public int open(int way) throws IndexOutOfBoundsException, IllegalArgumentException {
        if (way < 0 || way >= ways.length) {
            throw new IndexOutOfBoundsException("there are ways 0 to 2 alone");
        }
        if (!ways[way].canUnlock(input.length)) {
            throw new IllegalArgumentException("this way does not open so many bytes");
        }
        if (!ways[way].unlock(input, opened)) {
            return NONE;
        }
        output.become(opened);
        return output.length;
    }

    public int size() {
        return output.length;
    }

    public int at(int k) throws IndexOutOfBoundsException {
        if (!output.has(k)) {
            throw new IndexOutOfBoundsException("the output has no such byte");
        }
        return output.bytes[k];
    }

    public int take() {
        input.become(output);
        return input.length;
    }

    private static int byteOf(int word, int k) {
        return (word >>> (24 - 8 * k)) & 255;
    }

    /** Bytes 0 .. 255; all rows have the same room, so that each can become any other. */
    private static final class Row {
        final int[] bytes = new int[INPUT_LIMIT];
        int length = 0;

        boolean has(int k) {
            return k >= 0 && k < length;
        }

        void clear() {
            length = 0;
        }

        void add(int b) {
            bytes[length] = b;
            length++;
        }

        void addAll(int[] from, int count) {
            System.arraycopy(from, 0, bytes, length, count);
            length += count;
        }

        void addZeros(int upTo) {
            for (int k = length; k < upTo; k++) {
                add(0);
            }
        }

        void become(Row other) {
            becomeRest(other, 0);
        }

        /** Also right when the other row is this one. */
        void becomeRest(Row other, int start) {
            length = other.length - start;
            System.arraycopy(other.bytes, start, bytes, 0, length);
        }
    }

    private static final class Items {
        final Row[] rows = new Row[ITEMS_LIMIT];
        int count = 0;

        Items() {
            for (int i = 0; i < rows.length; i++) {
                rows[i] = new Row();
            }
        }
    }

    /** S of every byte, and the byte of every S. */
    private static final class Tables {
        final int[] forth = new int[256];
        final int[] back = new int[256];

        Tables() {
            // The powers of 3 run through all bytes but 0, so 3^i and 3^(255 - i) have the product 1.
            int[] powers = new int[256];
            powers[0] = 1;
            for (int i = 1; i < powers.length; i++) {
                powers[i] = powers[i - 1] ^ twice(powers[i - 1]);
            }
            enter(0, 0);
            for (int i = 0; i < 255; i++) {
                enter(powers[i], powers[255 - i]);
            }
        }

        private void enter(int b, int inverse) {
            int s = inverse ^ turnLeft(inverse, 1) ^ turnLeft(inverse, 2) ^ turnLeft(inverse, 3)
                    ^ turnLeft(inverse, 4) ^ 99;
            forth[b] = s;
            back[s] = b;
        }

        private static int turnLeft(int c, int n) {
            return ((c << n) | (c >>> (8 - n))) & 255;
        }

        static int twice(int b) {
            return b < 128 ? b << 1 : (b << 1) ^ 0x11b;
        }
    }

    /** The cipher by one key; it turns the first 16 bytes of an array in place. */
    private static final class Cipher {
        private static final int ROUNDS = 10;

        private final Tables tables;
        private final int[] roundKeys = new int[BLOCK * (ROUNDS + 1)];
        private final int[] before = new int[BLOCK];

        Cipher(Tables tables) {
            this.tables = tables;
            use(0, 0, 0, 0);
        }

        void use(int a, int b, int c, int d) {
            for (int k = 0; k < 4; k++) {
                roundKeys[k] = byteOf(a, k);
                roundKeys[4 + k] = byteOf(b, k);
                roundKeys[8 + k] = byteOf(c, k);
                roundKeys[12 + k] = byteOf(d, k);
            }
            int power = 1;
            for (int start = BLOCK; start < roundKeys.length; start += BLOCK) {
                expandFrom(start, power);
                power = Tables.twice(power);
            }
        }

        private void expandFrom(int start, int power) {
            for (int k = 0; k < 4; k++) {
                int turned = roundKeys[start - 4 + (k + 1) % 4];
                roundKeys[start + k] = roundKeys[start - BLOCK + k] ^ tables.forth[turned];
            }
            roundKeys[start] ^= power;
            for (int k = 4; k < BLOCK; k++) {
                roundKeys[start + k] = roundKeys[start - BLOCK + k] ^ roundKeys[start + k - 4];
            }
        }

        void turn(int[] block) {
            addRoundKey(block, 0);
            for (int r = 1; r <= ROUNDS; r++) {
                substitute(block);
                if (r < ROUNDS) {
                    mix(block);
                }
                addRoundKey(block, r);
            }
        }

        void turnBack(int[] block) {
            for (int r = ROUNDS; r >= 1; r--) {
                addRoundKey(block, r);
                if (r < ROUNDS) {
                    unmix(block);
                }
                substituteBack(block);
            }
            addRoundKey(block, 0);
        }

        private void addRoundKey(int[] block, int r) {
            for (int k = 0; k < BLOCK; k++) {
                block[k] ^= roundKeys[BLOCK * r + k];
            }
        }

        private void substitute(int[] block) {
            System.arraycopy(block, 0, before, 0, BLOCK);
            for (int k = 0; k < BLOCK; k++) {
                block[k] = tables.forth[before[placeBefore(k)]];
            }
        }

        private void substituteBack(int[] block) {
            System.arraycopy(block, 0, before, 0, BLOCK);
            for (int k = 0; k < BLOCK; k++) {
                block[placeBefore(k)] = tables.back[before[k]];
            }
        }

        /** For place 4 c + k it is 4 ((c + k) % 4) + k, which is (4 c + k + 4 k) % 16 because k is below 4. */
        private static int placeBefore(int place) {
            return (place + 4 * (place % 4)) % BLOCK;
        }

        private static void mix(int[] block) {
            for (int k = 0; k < BLOCK; k += 4) {
                int a = block[k];
                int b = block[k + 1];
                int c = block[k + 2];
                int d = block[k + 3];
                // 3 b is 2 b ^ b, so 2 a ^ 3 b ^ c ^ d is a ^ 2 (a ^ b) ^ all four; the others likewise.
                int all = a ^ b ^ c ^ d;
                block[k] = a ^ all ^ Tables.twice(a ^ b);
                block[k + 1] = b ^ all ^ Tables.twice(b ^ c);
                block[k + 2] = c ^ all ^ Tables.twice(c ^ d);
                block[k + 3] = d ^ all ^ Tables.twice(d ^ a);
            }
        }

        /** Mixing four times changes nothing, so three times more undo one. */
        private static void unmix(int[] block) {
            mix(block);
            mix(block);
            mix(block);
        }
    }

    /** The mark and the joint mark by one cipher, put into the first 16 bytes of an array. */
    private static final class Marker {
        private final Cipher cipher;
        private final int[] twist = new int[BLOCK];
        private final int[] sum = new int[BLOCK];
        private final Row joined = new Row();

        Marker(Cipher cipher) {
            this.cipher = cipher;
        }

        void markRow(Row row, int[] mark) {
            int last = row.length == 0 ? 0 : (row.length - 1) / BLOCK * BLOCK;
            Arrays.fill(mark, 0, BLOCK, 0);
            for (int start = 0; start < last; start += BLOCK) {
                addTo(mark, row.bytes, start, BLOCK);
                cipher.turn(mark);
            }
            int rest = row.length - last;
            addTo(mark, row.bytes, last, rest);
            Arrays.fill(twist, 0);
            cipher.turn(twist);
            doubleBlock(twist);
            if (rest < BLOCK) {
                mark[rest] ^= 128;
                doubleBlock(twist);
            }
            addTo(mark, twist, 0, BLOCK);
            cipher.turn(mark);
        }

        void join(Items items, Row row, int[] mark) {
            joined.clear();
            joined.addZeros(BLOCK);
            markRow(joined, sum);
            for (int i = 0; i < items.count; i++) {
                doubleBlock(sum);
                markRow(items.rows[i], mark);
                addTo(sum, mark, 0, BLOCK);
            }
            joined.become(row);
            if (joined.length < BLOCK) {
                doubleBlock(sum);
                joined.add(128);
                joined.addZeros(BLOCK);
            }
            addToEnd(joined, sum);
            markRow(joined, mark);
        }

        private static void addTo(int[] block, int[] from, int start, int count) {
            for (int k = 0; k < count; k++) {
                block[k] ^= from[start + k];
            }
        }

        private static void addToEnd(Row row, int[] block) {
            int start = row.length - BLOCK;
            for (int k = 0; k < BLOCK; k++) {
                row.bytes[start + k] ^= block[k];
            }
        }

        private static void doubleBlock(int[] block) {
            int beyond = block[0] >> 7;
            for (int k = 0; k < BLOCK - 1; k++) {
                block[k] = ((block[k] << 1) & 255) | (block[k + 1] >> 7);
            }
            block[BLOCK - 1] = ((block[BLOCK - 1] << 1) & 255) ^ (beyond * 135);
        }
    }

    /** A way to seal; the lengths are asked before, so neither lock nor unlock looks at them again. */
    private abstract static class Way {
        abstract boolean canLock(int length);

        abstract boolean canUnlock(int length);

        abstract void lock(Row plain, Row locked);

        /** Whether the locked bytes are right; the plain row holds what comes only then. */
        abstract boolean unlock(Row locked, Row plain);
    }

    private static final class Marked extends Way {
        private final Marker marker;
        private final Items items;
        private final Cipher cipher;
        private final int[] sign = new int[BLOCK];
        private final int[] counter = new int[BLOCK];
        private final int[] block = new int[BLOCK];

        Marked(Marker marker, Items items, Cipher cipher) {
            this.marker = marker;
            this.items = items;
            this.cipher = cipher;
        }

        boolean canLock(int length) {
            return length <= PLAIN_LIMIT;
        }

        boolean canUnlock(int length) {
            return length >= BLOCK && length <= BLOCK + PLAIN_LIMIT;
        }

        void lock(Row plain, Row locked) {
            marker.join(items, plain, sign);
            locked.clear();
            locked.addAll(sign, BLOCK);
            locked.addAll(plain.bytes, plain.length);
            addStream(locked, BLOCK, locked.bytes);
        }

        boolean unlock(Row locked, Row plain) {
            plain.becomeRest(locked, BLOCK);
            addStream(plain, 0, locked.bytes);
            marker.join(items, plain, sign);
            for (int k = 0; k < BLOCK; k++) {
                if (sign[k] != locked.bytes[k]) {
                    return false;
                }
            }
            return true;
        }

        private void addStream(Row row, int start, int[] mark) {
            System.arraycopy(mark, 0, counter, 0, BLOCK);
            counter[8] &= 127;
            counter[12] &= 127;
            for (int k = start; k < row.length; k++) {
                int place = (k - start) % BLOCK;
                if (place == 0) {
                    nextBlock();
                }
                row.bytes[k] ^= block[place];
            }
        }

        private void nextBlock() {
            System.arraycopy(counter, 0, block, 0, BLOCK);
            cipher.turn(block);
            int carry = 1;
            for (int k = BLOCK - 1; k >= 0; k--) {
                int next = counter[k] + carry;
                counter[k] = next & 255;
                carry = next >> 8;
            }
        }
    }

    /** The turns that WRAPPED and PADDED have in common, on a row of A and the rows of 8 bytes behind it. */
    private static final class Wrapping {
        private static final int TURNS = 6;

        private final Cipher cipher;
        private final int[] block = new int[BLOCK];

        Wrapping(Cipher cipher) {
            this.cipher = cipher;
        }

        void wind(Row row) {
            int n = row.length / HALF - 1;
            for (int j = 0; j < TURNS; j++) {
                for (int i = 1; i <= n; i++) {
                    lift(row, i);
                    cipher.turn(block);
                    addNumber(n * j + i);
                    lay(row, i);
                }
            }
        }

        void unwind(Row row) {
            int n = row.length / HALF - 1;
            for (int j = TURNS - 1; j >= 0; j--) {
                for (int i = n; i >= 1; i--) {
                    lift(row, i);
                    addNumber(n * j + i);
                    cipher.turnBack(block);
                    lay(row, i);
                }
            }
        }

        private void lift(Row row, int i) {
            System.arraycopy(row.bytes, 0, block, 0, HALF);
            System.arraycopy(row.bytes, HALF * i, block, HALF, HALF);
        }

        private void lay(Row row, int i) {
            System.arraycopy(block, 0, row.bytes, 0, HALF);
            System.arraycopy(block, HALF, row.bytes, HALF * i, HALF);
        }

        /** The number is 48 at most, so the seven bytes above its last are 0. */
        private void addNumber(int number) {
            block[HALF - 1] ^= number;
        }
    }

    private static final class Wrapped extends Way {
        private static final int SIGN = 166;

        private final Wrapping wrapping;

        Wrapped(Wrapping wrapping) {
            this.wrapping = wrapping;
        }

        boolean canLock(int length) {
            return length % HALF == 0 && length >= 2 * HALF && length <= PLAIN_LIMIT;
        }

        boolean canUnlock(int length) {
            return canLock(length - HALF);
        }

        void lock(Row plain, Row locked) {
            locked.clear();
            for (int k = 0; k < HALF; k++) {
                locked.add(SIGN);
            }
            locked.addAll(plain.bytes, plain.length);
            wrapping.wind(locked);
        }

        boolean unlock(Row locked, Row plain) {
            plain.become(locked);
            wrapping.unwind(plain);
            for (int k = 0; k < HALF; k++) {
                if (plain.bytes[k] != SIGN) {
                    return false;
                }
            }
            plain.becomeRest(plain, HALF);
            return true;
        }
    }

    private static final class Padded extends Way {
        private static final int SIGN = 0xa65959a6;

        private final Wrapping wrapping;
        private final Cipher cipher;

        Padded(Wrapping wrapping, Cipher cipher) {
            this.wrapping = wrapping;
            this.cipher = cipher;
        }

        boolean canLock(int length) {
            return length >= 1 && length <= PLAIN_LIMIT;
        }

        boolean canUnlock(int length) {
            return length % HALF == 0 && length >= BLOCK && length <= HALF + PLAIN_LIMIT;
        }

        void lock(Row plain, Row locked) {
            locked.clear();
            addWord(locked, SIGN);
            addWord(locked, plain.length);
            locked.addAll(plain.bytes, plain.length);
            locked.addZeros((locked.length + HALF - 1) / HALF * HALF);
            if (locked.length == BLOCK) {
                cipher.turn(locked.bytes);
            } else {
                wrapping.wind(locked);
            }
        }

        boolean unlock(Row locked, Row plain) {
            plain.become(locked);
            if (plain.length == BLOCK) {
                cipher.turnBack(plain.bytes);
            } else {
                wrapping.unwind(plain);
            }
            int sign = wordAt(plain, 0);
            int number = wordAt(plain, 4);
            plain.becomeRest(plain, HALF);
            if (sign != SIGN || number <= plain.length - HALF || number > plain.length) {
                return false;
            }
            return cutZeros(plain, number);
        }

        private static boolean cutZeros(Row row, int number) {
            for (int k = number; k < row.length; k++) {
                if (row.bytes[k] != 0) {
                    return false;
                }
            }
            row.length = number;
            return true;
        }

        private static void addWord(Row row, int word) {
            for (int k = 0; k < 4; k++) {
                row.add(byteOf(word, k));
            }
        }

        private static int wordAt(Row row, int start) {
            int word = 0;
            for (int k = 0; k < 4; k++) {
                word = (word << 8) | row.bytes[start + k];
            }
            return word;
        }
    }
}
