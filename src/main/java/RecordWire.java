/**
 * A channel for records between two sides, over a wire of eight slots that whoever delivers may
 * mix, repeat, change and drop. Bytes are held as ints 0 .. 255, so that no sign gets in the way;
 * every row is made with the object and used again, so that no call makes a new one.
 */
public final class RecordWire {
    public static final int NONE = -1;

    private static final int NO_EMPTY_SLOT = -2;

    private static final int SIDES = 2;
    private static final int SLOTS = 8;
    private static final int KEY_BYTES = 32;

    private static final int DIRECTION_AT = 0;
    private static final int EPOCH_AT = 1;
    private static final int EPOCH_BYTES = 4;
    private static final int NUMBER_AT = 5;
    private static final int NUMBER_BYTES = 8;
    private static final int LENGTH_AT = 13;
    private static final int LENGTH_BYTES = 2;
    private static final int TEXT_AT = 15;
    private static final int TAG_BYTES = 16;
    private static final int MOST_TEXT = 96;
    private static final int MOST_RECORD = TEXT_AT + MOST_TEXT + TAG_BYTES;

    private static final int TAKEN = 0;
    private static final int NOTHING_TO_DELIVER = 1;
    private static final int WRONG_SHAPE = 2;
    private static final int WRONG_EPOCH = 3;
    private static final int WRONG_TAG = 4;
    private static final int TOO_OLD = 5;
    private static final int SEEN_BEFORE = 6;

    private final int[] sharedKey = new int[KEY_BYTES];
    private final int[] zeroKey = new int[KEY_BYTES];
    private final int[] root = new int[KEY_BYTES];
    private final Hmac hmac = new Hmac();
    private final Direction[] directions = new Direction[SIDES];
    private final ByteRow[] slots = new ByteRow[SLOTS];
    private final ByteRow outbox = new ByteRow();
    private final ByteRow inbox = new ByteRow();
    private boolean opened;

    public RecordWire() {
        for (int side = 0; side < SIDES; side++) {
            directions[side] = new Direction(side);
        }
        for (int slot = 0; slot < SLOTS; slot++) {
            slots[slot] = new ByteRow();
        }
        init();
    }

    public void init() {
        for (int i = 0; i < KEY_BYTES; i++) {
            sharedKey[i] = 0;
        }
        for (int slot = 0; slot < SLOTS; slot++) {
            slots[slot].clear();
        }
        for (int side = 0; side < SIDES; side++) {
            directions[side].forget();
        }
        outbox.clear();
        inbox.clear();
        opened = false;
    }

    public boolean setPsk(int i, int b) {
        if (opened || i < 0 || i >= KEY_BYTES || !isByte(b)) {
            return false;
        }
        sharedKey[i] = b;
        return true;
    }

    public void open() {
        if (opened) {
            return;
        }
        hmac.begin(zeroKey);
        hmac.appendAll(sharedKey);
        hmac.finish(root);
        for (int side = 0; side < SIDES; side++) {
            directions[side].startEpoch(0, root);
        }
        opened = true;
    }

    public boolean put(int b) {
        if (!isByte(b) || outbox.size() >= MOST_TEXT) {
            return false;
        }
        outbox.append(b);
        return true;
    }

    public int send(int side) {
        if (!isSide(side) || !opened) {
            return NONE;
        }
        int slot = firstEmptySlot();
        if (slot == NONE) {
            return NO_EMPTY_SLOT;
        }
        directions[side].write(outbox, slots[slot]);
        outbox.clear();
        return slot;
    }

    public int deliver(int slot, int side) {
        if (!isSlot(slot) || !isSide(side) || !opened || slots[slot].isEmpty()) {
            return NOTHING_TO_DELIVER;
        }
        Direction towardsSide = directions[1 - side];
        int verdict = towardsSide.judge(slots[slot]);
        if (verdict == TAKEN) {
            towardsSide.read(slots[slot], inbox);
        }
        return verdict;
    }

    public int got(int i) {
        return inbox.at(i);
    }

    public int gotLen() {
        return inbox.size();
    }

    public boolean corrupt(int slot, int i, int b) {
        return isSlot(slot) && isByte(b) && slots[slot].change(i, b);
    }

    public boolean drop(int slot) {
        if (!isSlot(slot) || slots[slot].isEmpty()) {
            return false;
        }
        slots[slot].clear();
        return true;
    }

    public int rekey(int side) {
        if (!isSide(side) || !opened) {
            return NONE;
        }
        Direction direction = directions[side];
        direction.makeNextRoot(root);
        direction.startEpoch(direction.epoch() + 1, root);
        return direction.epoch();
    }

    public int wireAt(int slot, int i) {
        return isSlot(slot) ? slots[slot].at(i) : NONE;
    }

    public int count(int what) {
        switch (what) {
            case 0:
                return fullSlots();
            case 1:
                return outbox.size();
            case 2:
            case 3:
                return opened ? directions[what - 2].epoch() : NONE;
            case 4:
            case 5:
                return directions[what - 4].seenInWindow();
            default:
                return NONE;
        }
    }

    private int firstEmptySlot() {
        for (int slot = 0; slot < SLOTS; slot++) {
            if (slots[slot].isEmpty()) {
                return slot;
            }
        }
        return NONE;
    }

    private int fullSlots() {
        int full = 0;
        for (int slot = 0; slot < SLOTS; slot++) {
            if (!slots[slot].isEmpty()) {
                full++;
            }
        }
        return full;
    }

    private static boolean isSide(int side) {
        return side >= 0 && side < SIDES;
    }

    private static boolean isSlot(int slot) {
        return slot >= 0 && slot < SLOTS;
    }

    private static boolean isByte(int b) {
        return b >= 0 && b <= 255;
    }

    /** Bytes in a row, with room for the longest record: a slot, the outbox or the inbox. */
    private static final class ByteRow {
        private final int[] bytes = new int[MOST_RECORD];
        private int size;

        void clear() {
            size = 0;
        }

        int size() {
            return size;
        }

        // A record has 31 bytes at least, so a slot without bytes is one without a record.
        boolean isEmpty() {
            return size == 0;
        }

        int at(int i) {
            return i >= 0 && i < size ? bytes[i] : NONE;
        }

        boolean change(int i, int b) {
            if (i < 0 || i >= size) {
                return false;
            }
            bytes[i] = b;
            return true;
        }

        void append(int b) {
            if (size < MOST_RECORD) {
                bytes[size] = b;
                size++;
            }
        }

        void appendNumber(long value, int width) {
            for (int i = width - 1; i >= 0; i--) {
                append((int) (value >>> 8 * i) & 255);
            }
        }

        long numberAt(int from, int width) {
            long value = 0;
            for (int i = 0; i < width; i++) {
                value = value << 8 | (at(from + i) & 255);
            }
            return value;
        }
    }

    /** One way over the wire: its keys, its epoch, its next number and what its receiver saw. */
    private static final class Direction {
        private static final int FOR_SEALING = 0;
        private static final int FOR_TAGGING = 1;

        private final int index;
        private final Hmac hmac = new Hmac();
        private final Salsa20 salsa = new Salsa20();
        private final int[] sealKey = new int[KEY_BYTES];
        private final int[] tagKey = new int[KEY_BYTES];
        private final int[] tag = new int[Sha256.HASH_BYTES];
        private final Window window = new Window();
        private int epoch;
        private long nextNumber;

        Direction(int index) {
            this.index = index;
        }

        int epoch() {
            return epoch;
        }

        int seenInWindow() {
            return window.seenCount();
        }

        void forget() {
            epoch = 0;
            nextNumber = 0;
            window.forget();
        }

        void makeNextRoot(int[] nextRoot) {
            hmac.begin(tagKey);
            hmac.appendAll(sealKey);
            hmac.finish(nextRoot);
        }

        void startEpoch(int newEpoch, int[] keyRoot) {
            makeKey(keyRoot, FOR_SEALING, sealKey);
            makeKey(keyRoot, FOR_TAGGING, tagKey);
            forget();
            epoch = newEpoch;
        }

        void write(ByteRow text, ByteRow record) {
            int length = text.size();
            record.clear();
            record.append(index);
            record.appendNumber(epoch, EPOCH_BYTES);
            record.appendNumber(nextNumber, NUMBER_BYTES);
            record.appendNumber(length, LENGTH_BYTES);
            salsa.begin(sealKey, record);
            for (int i = 0; i < length; i++) {
                record.append(text.at(i) ^ salsa.next());
            }
            makeTag(record, record.size());
            for (int i = 0; i < TAG_BYTES; i++) {
                record.append(tag[i]);
            }
            nextNumber++;
        }

        /** TAKEN, or the first reason that speaks against the record; nothing changes. */
        int judge(ByteRow record) {
            if (!hasRightShape(record)) {
                return WRONG_SHAPE;
            }
            if ((int) record.numberAt(EPOCH_AT, EPOCH_BYTES) != epoch) {
                return WRONG_EPOCH;
            }
            int tagAt = record.size() - TAG_BYTES;
            makeTag(record, tagAt);
            if (!tagStandsAt(tagAt, record)) {
                return WRONG_TAG;
            }
            long number = record.numberAt(NUMBER_AT, NUMBER_BYTES);
            if (window.isTooOld(number)) {
                return TOO_OLD;
            }
            return window.wasSeen(number) ? SEEN_BEFORE : TAKEN;
        }

        void read(ByteRow record, ByteRow text) {
            int length = (int) record.numberAt(LENGTH_AT, LENGTH_BYTES);
            text.clear();
            salsa.begin(sealKey, record);
            for (int i = 0; i < length; i++) {
                text.append(record.at(TEXT_AT + i) ^ salsa.next());
            }
            window.mark(record.numberAt(NUMBER_AT, NUMBER_BYTES));
        }

        private boolean hasRightShape(ByteRow record) {
            int length = (int) record.numberAt(LENGTH_AT, LENGTH_BYTES);
            return record.at(DIRECTION_AT) == index
                    && length <= MOST_TEXT
                    && TEXT_AT + length + TAG_BYTES == record.size();
        }

        private boolean tagStandsAt(int tagAt, ByteRow record) {
            for (int i = 0; i < TAG_BYTES; i++) {
                if (record.at(tagAt + i) != tag[i]) {
                    return false;
                }
            }
            return true;
        }

        private void makeTag(ByteRow record, int length) {
            hmac.begin(tagKey);
            for (int i = 0; i < length; i++) {
                hmac.append(record.at(i));
            }
            hmac.finish(tag);
        }

        private void makeKey(int[] keyRoot, int purpose, int[] key) {
            hmac.begin(keyRoot);
            hmac.append(index);
            hmac.append(purpose);
            hmac.append(1);
            hmac.finish(key);
        }
    }

    /** The greatest number seen and, of it and the 63 below it, which were seen. */
    private static final class Window {
        private static final long HIGHEST_BIT = 1L << 63;

        private long greatest;
        // Bit k stands for the number greatest - k; the lowest is set as soon as one was seen.
        private long seen;

        void forget() {
            greatest = 0;
            seen = 0;
        }

        int seenCount() {
            return Long.bitCount(seen);
        }

        boolean isTooOld(long number) {
            return seen != 0 && !isAbove(number, greatest) && !fits(greatest - number);
        }

        boolean wasSeen(long number) {
            long below = greatest - number;
            return !isAbove(number, greatest) && fits(below) && (seen >>> below & 1) == 1;
        }

        void mark(long number) {
            if (seen == 0) {
                greatest = number;
                seen = 1;
            } else if (isAbove(number, greatest)) {
                long step = number - greatest;
                // Java takes a shift by 64 or more modulo 64, which would keep what has left.
                seen = fits(step) ? seen << step | 1 : 1;
                greatest = number;
            } else if (fits(greatest - number)) {
                seen |= 1L << (greatest - number);
            }
        }

        // A distance goes without sign too: one of 2^63 or more looks negative.
        private static boolean fits(long distance) {
            return distance >= 0 && distance < 64;
        }

        // Turning the highest bit makes Java's signed order the order of numbers without sign.
        private static boolean isAbove(long a, long b) {
            return (a ^ HIGHEST_BIT) > (b ^ HIGHEST_BIT);
        }
    }

    /** HMAC-SHA-256 with keys of at most a block. */
    private static final class Hmac {
        private static final int INNER_PAD = 0x36;
        private static final int OUTER_PAD = 0x5c;

        private final Sha256 hash = new Sha256();
        private final int[] keyBlock = new int[Sha256.BLOCK_BYTES];
        private final int[] innerHash = new int[Sha256.HASH_BYTES];

        void begin(int[] key) {
            for (int i = 0; i < Sha256.BLOCK_BYTES; i++) {
                keyBlock[i] = i < key.length ? key[i] : 0;
            }
            beginWithPad(INNER_PAD);
        }

        void append(int b) {
            hash.append(b);
        }

        void appendAll(int[] bytes) {
            for (int i = 0; i < bytes.length; i++) {
                hash.append(bytes[i]);
            }
        }

        void finish(int[] code) {
            hash.finish(innerHash);
            beginWithPad(OUTER_PAD);
            appendAll(innerHash);
            hash.finish(code);
        }

        private void beginWithPad(int pad) {
            hash.begin();
            for (int i = 0; i < Sha256.BLOCK_BYTES; i++) {
                hash.append(keyBlock[i] ^ pad);
            }
        }
    }

    /** SHA-256 of a message that is held whole, since none here is longer than three blocks. */
    private static final class Sha256 {
        static final int BLOCK_BYTES = 64;
        static final int HASH_BYTES = 32;

        // The longest: HMAC's key block, a record up to its tag, and 9 bytes of padding make 184.
        private static final int MOST_MESSAGE = 3 * BLOCK_BYTES;
        private static final int LENGTH_IN_BLOCK = 56;
        private static final int ROUNDS = 64;
        private static final int[] FIRST_STATE = {
            0x6a09e667, 0xbb67ae85, 0x3c6ef372, 0xa54ff53a,
            0x510e527f, 0x9b05688c, 0x1f83d9ab, 0x5be0cd19
        };
        private static final int[] ROUND_WORDS = {
            0x428a2f98, 0x71374491, 0xb5c0fbcf, 0xe9b5dba5,
            0x3956c25b, 0x59f111f1, 0x923f82a4, 0xab1c5ed5,
            0xd807aa98, 0x12835b01, 0x243185be, 0x550c7dc3,
            0x72be5d74, 0x80deb1fe, 0x9bdc06a7, 0xc19bf174,
            0xe49b69c1, 0xefbe4786, 0x0fc19dc6, 0x240ca1cc,
            0x2de92c6f, 0x4a7484aa, 0x5cb0a9dc, 0x76f988da,
            0x983e5152, 0xa831c66d, 0xb00327c8, 0xbf597fc7,
            0xc6e00bf3, 0xd5a79147, 0x06ca6351, 0x14292967,
            0x27b70a85, 0x2e1b2138, 0x4d2c6dfc, 0x53380d13,
            0x650a7354, 0x766a0abb, 0x81c2c92e, 0x92722c85,
            0xa2bfe8a1, 0xa81a664b, 0xc24b8b70, 0xc76c51a3,
            0xd192e819, 0xd6990624, 0xf40e3585, 0x106aa070,
            0x19a4c116, 0x1e376c08, 0x2748774c, 0x34b0bcb5,
            0x391c0cb3, 0x4ed8aa4a, 0x5b9cca4f, 0x682e6ff3,
            0x748f82ee, 0x78a5636f, 0x84c87814, 0x8cc70208,
            0x90befffa, 0xa4506ceb, 0xbef9a3f7, 0xc67178f2
        };

        private final int[] message = new int[MOST_MESSAGE];
        private final int[] schedule = new int[ROUNDS];
        private final int[] state = new int[8];
        private int length;

        void begin() {
            length = 0;
        }

        void append(int b) {
            if (length < MOST_MESSAGE) {
                message[length] = b;
                length++;
            }
        }

        void finish(int[] hash) {
            pad();
            for (int i = 0; i < 8; i++) {
                state[i] = FIRST_STATE[i];
            }
            for (int from = 0; from + BLOCK_BYTES <= length; from += BLOCK_BYTES) {
                fillSchedule(from);
                mixState();
            }
            for (int i = 0; i < HASH_BYTES && i < hash.length; i++) {
                hash[i] = (state[i >> 2] >>> 24 - 8 * (i & 3)) & 255;
            }
        }

        private void pad() {
            long bits = 8L * length;
            append(0x80);
            for (int i = 0; i < BLOCK_BYTES && length % BLOCK_BYTES != LENGTH_IN_BLOCK; i++) {
                append(0);
            }
            for (int shift = 56; shift >= 0; shift -= 8) {
                append((int) (bits >>> shift) & 255);
            }
        }

        private void fillSchedule(int from) {
            for (int t = 0; t < 16; t++) {
                int at = from + 4 * t;
                schedule[t] = message[at] << 24 | message[at + 1] << 16
                        | message[at + 2] << 8 | message[at + 3];
            }
            for (int t = 16; t < ROUNDS; t++) {
                int near = schedule[t - 2];
                int far = schedule[t - 15];
                int nearMix = turn(near, 17) ^ turn(near, 19) ^ (near >>> 10);
                int farMix = turn(far, 7) ^ turn(far, 18) ^ (far >>> 3);
                schedule[t] = nearMix + schedule[t - 7] + farMix + schedule[t - 16];
            }
        }

        private void mixState() {
            int a = state[0];
            int b = state[1];
            int c = state[2];
            int d = state[3];
            int e = state[4];
            int f = state[5];
            int g = state[6];
            int h = state[7];
            for (int t = 0; t < ROUNDS; t++) {
                int choice = (e & f) ^ (~e & g);
                int majority = (a & b) ^ (a & c) ^ (b & c);
                int one = h + (turn(e, 6) ^ turn(e, 11) ^ turn(e, 25)) + choice
                        + ROUND_WORDS[t] + schedule[t];
                int two = (turn(a, 2) ^ turn(a, 13) ^ turn(a, 22)) + majority;
                h = g;
                g = f;
                f = e;
                e = d + one;
                d = c;
                c = b;
                b = a;
                a = one + two;
            }
            state[0] += a;
            state[1] += b;
            state[2] += c;
            state[3] += d;
            state[4] += e;
            state[5] += f;
            state[6] += g;
            state[7] += h;
        }

        private static int turn(int word, int right) {
            return word >>> right | word << (32 - right);
        }
    }

    /** The stream of Salsa20 with 20 rounds and a key of 32 bytes, from block 0 on. */
    private static final class Salsa20 {
        private static final int WORDS = 16;
        private static final int BLOCK_BYTES = 64;
        private static final int DOUBLE_ROUNDS = 10;
        private static final int BLOCK_NUMBER_AT = 8;
        // "expand 32-byte k"
        private static final int[] EXPAND = {0x61707865, 0x3320646e, 0x79622d32, 0x6b206574};

        private final int[] input = new int[WORDS];
        private final int[] block = new int[WORDS];
        private int position;

        void begin(int[] key, ByteRow head) {
            for (int i = 0; i < 4; i++) {
                input[5 * i] = EXPAND[i];
                input[1 + i] = keyWord(key, 4 * i);
                input[11 + i] = keyWord(key, 16 + 4 * i);
            }
            input[6] = headWord(head, NUMBER_AT);
            input[7] = headWord(head, NUMBER_AT + 4);
            input[BLOCK_NUMBER_AT] = 0;
            input[BLOCK_NUMBER_AT + 1] = 0;
            position = BLOCK_BYTES;
        }

        int next() {
            // A text has two blocks at most, so the number's lower word is all that ever counts.
            if (position >= BLOCK_BYTES) {
                fillBlock();
                input[BLOCK_NUMBER_AT]++;
                position = 0;
            }
            int b = (block[position >> 2] >>> 8 * (position & 3)) & 255;
            position++;
            return b;
        }

        private void fillBlock() {
            for (int i = 0; i < WORDS; i++) {
                block[i] = input[i];
            }
            for (int i = 0; i < DOUBLE_ROUNDS; i++) {
                mixColumns();
                mixRows();
            }
            for (int i = 0; i < WORDS; i++) {
                block[i] += input[i];
            }
        }

        private void mixColumns() {
            mixQuarter(0, 4, 8, 12);
            mixQuarter(5, 9, 13, 1);
            mixQuarter(10, 14, 2, 6);
            mixQuarter(15, 3, 7, 11);
        }

        private void mixRows() {
            mixQuarter(0, 1, 2, 3);
            mixQuarter(5, 6, 7, 4);
            mixQuarter(10, 11, 8, 9);
            mixQuarter(15, 12, 13, 14);
        }

        private void mixQuarter(int a, int b, int c, int d) {
            block[b] ^= turn(block[a] + block[d], 7);
            block[c] ^= turn(block[b] + block[a], 9);
            block[d] ^= turn(block[c] + block[b], 13);
            block[a] ^= turn(block[d] + block[c], 18);
        }

        private static int keyWord(int[] key, int at) {
            if (at < 0 || at + 3 >= key.length) {
                return 0;
            }
            return word(key[at], key[at + 1], key[at + 2], key[at + 3]);
        }

        private static int headWord(ByteRow head, int at) {
            return word(head.at(at), head.at(at + 1), head.at(at + 2), head.at(at + 3));
        }

        private static int word(int lowest, int second, int third, int highest) {
            return lowest | second << 8 | third << 16 | highest << 24;
        }

        private static int turn(int word, int left) {
            return word << left | word >>> (32 - left);
        }
    }
}
