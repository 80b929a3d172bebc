import java.math.BigInteger;
import java.nio.ByteBuffer;
import java.util.Arrays;
import java.util.TreeSet;

/**
 * The document's promises once more in their plainest form: for comparing answers at random, and
 * for wires that break one sentence by overriding a method.
 */
class PlainWire implements Wire {
    byte[] sharedKey;
    boolean opened;
    byte[][] slots;
    byte[] outbox;
    byte[] inbox;
    Spec.Keys[] keys;
    int[] epochs;
    long[] next;
    TreeSet<BigInteger>[] seen;

    PlainWire() {
        clear();
    }

    @Override
    public void init() {
        clear();
    }

    @Override
    public boolean setPsk(int i, int b) {
        if (opened || i < 0 || i > 31 || b < 0 || b > 255) {
            return false;
        }
        sharedKey[i] = (byte) b;
        return true;
    }

    @Override
    public void open() {
        if (!opened) {
            keys[0] = firstKeys(0);
            keys[1] = firstKeys(1);
            opened = true;
        }
    }

    @Override
    public boolean put(int b) {
        if (b < 0 || b > 255 || outbox.length >= 96) {
            return false;
        }
        putInOutbox(b);
        return true;
    }

    @Override
    public int send(int side) {
        if (side != 0 && side != 1 || !opened) {
            return -1;
        }
        int slot = emptySlot();
        if (slot < 0) {
            return -2;
        }
        slots[slot] = record(side, epochs[side], next[side], outbox);
        next[side]++;
        outbox = new byte[0];
        return slot;
    }

    @Override
    public int deliver(int slot, int side) {
        if (side != 0 && side != 1 || !opened || sizeOf(slot) == 0) {
            return 1;
        }
        int verdict = verdict(slots[slot], 1 - side);
        if (verdict == 0) {
            take(slots[slot], 1 - side);
        }
        return verdict;
    }

    @Override
    public int got(int i) {
        return i >= 0 && i < inbox.length ? inbox[i] & 255 : -1;
    }

    @Override
    public int gotLen() {
        return inbox.length;
    }

    @Override
    public boolean corrupt(int slot, int i, int b) {
        if (i < 0 || i >= sizeOf(slot) || b < 0 || b > 255) {
            return false;
        }
        slots[slot][i] = (byte) b;
        return true;
    }

    @Override
    public boolean drop(int slot) {
        if (sizeOf(slot) == 0) {
            return false;
        }
        slots[slot] = null;
        return true;
    }

    @Override
    public int rekey(int side) {
        if (side != 0 && side != 1 || !opened) {
            return -1;
        }
        goOn(side);
        return epochs[side];
    }

    @Override
    public int wireAt(int slot, int i) {
        return i >= 0 && i < sizeOf(slot) ? slots[slot][i] & 255 : -1;
    }

    @Override
    public int count(int what) {
        switch (what) {
            case 0:
                return (int) Arrays.stream(slots).filter(slot -> slot != null).count();
            case 1:
                return outbox.length;
            case 2:
            case 3:
                return opened ? epochs[what - 2] : -1;
            case 4:
            case 5:
                int d = what - 4;
                return seen[d].isEmpty() ? 0 : seen[d].tailSet(lowest(d)).size();
            default:
                return -1;
        }
    }

    /** What the slot would hold if its record had this number and the tag that is right for it. */
    byte[] forged(int slot, int direction, long number) {
        byte[] untagged = Arrays.copyOf(slots[slot], slots[slot].length - 16);
        ByteBuffer.wrap(untagged).putLong(5, number);
        return Spec.tagged(keys[direction], untagged);
    }

    /** The greatest number that was seen; 0 before any. */
    long greatest(int d) {
        return seen[d].isEmpty() ? 0 : seen[d].last().longValue();
    }

    int sizeOf(int slot) {
        return slot < 0 || slot > 7 || slots[slot] == null ? 0 : slots[slot].length;
    }

    int emptySlot() {
        return Arrays.asList(slots).indexOf(null);
    }

    void putInOutbox(int b) {
        outbox = Arrays.copyOf(outbox, outbox.length + 1);
        outbox[outbox.length - 1] = (byte) b;
    }

    Spec.Keys firstKeys(int d) {
        return Spec.Keys.opened(d, sharedKey);
    }

    void goOn(int d) {
        keys[d] = keys[d].next(d);
        epochs[d]++;
        next[d] = 0;
        seen[d].clear();
    }

    byte[] record(int d, int epoch, long number, byte[] text) {
        byte[] head = ByteBuffer.allocate(15).put((byte) d).putInt(epoch).putLong(number)
                .putShort((short) text.length).array();
        byte[] untagged = Arrays.copyOf(head, 15 + text.length);
        System.arraycopy(sealed(d, head, text), 0, untagged, 15, text.length);
        return Spec.tagged(keys[d], untagged);
    }

    /** The text sealed, or the sealed text opened. */
    byte[] sealed(int d, byte[] head, byte[] text) {
        byte[] nonce = Arrays.copyOfRange(head, 5, 13);
        return Spec.xor(text, Spec.stream(keys[d].seal(), nonce, text.length));
    }

    /** The first that holds of 2 to 6, or 0. */
    int verdict(byte[] record, int d) {
        if (record[0] != d || !hasRightLength(record)) {
            return 2;
        }
        if (!isOfEpoch(record, d)) {
            return 3;
        }
        if (!hasRightTag(record, d)) {
            return 4;
        }
        if (isTooOld(numberOf(record), d)) {
            return 5;
        }
        return seen[d].contains(numberOf(record)) ? 6 : 0;
    }

    boolean hasRightLength(byte[] record) {
        int length = lengthOf(record);
        return length <= 96 && 15 + length + 16 == record.length;
    }

    boolean isOfEpoch(byte[] record, int d) {
        return ByteBuffer.wrap(record).getInt(1) == epochs[d];
    }

    boolean hasRightTag(byte[] record, int d) {
        byte[] untagged = Arrays.copyOf(record, record.length - 16);
        return Arrays.equals(record, Spec.tagged(keys[d], untagged));
    }

    boolean isTooOld(BigInteger number, int d) {
        return !seen[d].isEmpty() && number.compareTo(lowest(d)) < 0;
    }

    void take(byte[] record, int d) {
        inbox = sealed(d, record, Arrays.copyOfRange(record, 15, 15 + lengthOf(record)));
        seen[d].add(numberOf(record));
    }

    static int lengthOf(byte[] record) {
        return ByteBuffer.wrap(record).getShort(13) & 0xffff;
    }

    static BigInteger numberOf(byte[] record) {
        return new BigInteger(1, Arrays.copyOfRange(record, 5, 13));
    }

    /** The lowest number of the window; below 0 if the greatest is small. */
    BigInteger lowest(int d) {
        return seen[d].last().subtract(BigInteger.valueOf(63));
    }

    @SuppressWarnings({"unchecked", "rawtypes"})
    final void clear() {
        sharedKey = new byte[32];
        opened = false;
        slots = new byte[8][];
        outbox = new byte[0];
        inbox = new byte[0];
        keys = new Spec.Keys[2];
        epochs = new int[2];
        next = new long[2];
        seen = new TreeSet[] {new TreeSet<BigInteger>(), new TreeSet<BigInteger>()};
    }
}
