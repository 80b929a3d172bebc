import java.math.BigInteger;
import java.nio.ByteBuffer;
import java.util.Arrays;
import java.util.TreeSet;

/** The document's promises once more in their plainest form, for comparing answers at random. */
final class PlainWire {
    private byte[] sharedKey;
    private boolean opened;
    private byte[][] slots;
    private byte[] outbox;
    private byte[] inbox;
    private Spec.Keys[] keys;
    private int[] epochs;
    private long[] next;
    private TreeSet<BigInteger>[] seen;

    PlainWire() {
        init();
    }

    @SuppressWarnings({"unchecked", "rawtypes"})
    void init() {
        sharedKey = new byte[32];
        opened = false;
        slots = new byte[8][];
        outbox = new byte[0];
        inbox = new byte[0];
        keys = new Spec.Keys[2];
        epochs = new int[2];
        next = new long[2];
        seen = new TreeSet[] {new TreeSet<BigInteger>(), new TreeSet<BigInteger>()};
    }

    boolean setPsk(int i, int b) {
        if (opened || i < 0 || i > 31 || b < 0 || b > 255) {
            return false;
        }
        sharedKey[i] = (byte) b;
        return true;
    }

    void open() {
        if (!opened) {
            keys[0] = Spec.Keys.opened(0, sharedKey);
            keys[1] = Spec.Keys.opened(1, sharedKey);
            opened = true;
        }
    }

    boolean put(int b) {
        if (b < 0 || b > 255 || outbox.length == 96) {
            return false;
        }
        outbox = Arrays.copyOf(outbox, outbox.length + 1);
        outbox[outbox.length - 1] = (byte) b;
        return true;
    }

    int send(int side) {
        if (side != 0 && side != 1 || !opened) {
            return -1;
        }
        int slot = Arrays.asList(slots).indexOf(null);
        if (slot < 0) {
            return -2;
        }
        slots[slot] = Spec.record(keys[side], side, epochs[side], next[side], outbox);
        next[side]++;
        outbox = new byte[0];
        return slot;
    }

    int deliver(int slot, int side) {
        if (side != 0 && side != 1 || !opened || sizeOf(slot) == 0) {
            return 1;
        }
        byte[] bytes = slots[slot];
        ByteBuffer fields = ByteBuffer.wrap(bytes);
        int d = 1 - side;
        int length = fields.getShort(13) & 0xffff;
        if (bytes[0] != d || length > 96 || length + 31 != bytes.length) {
            return 2;
        }
        if (fields.getInt(1) != epochs[d]) {
            return 3;
        }
        byte[] untagged = Arrays.copyOf(bytes, bytes.length - 16);
        if (!Arrays.equals(bytes, Spec.tagged(keys[d], untagged))) {
            return 4;
        }
        BigInteger number = new BigInteger(1, Arrays.copyOfRange(bytes, 5, 13));
        if (!seen[d].isEmpty() && number.compareTo(lowest(d)) < 0) {
            return 5;
        }
        if (!seen[d].add(number)) {
            return 6;
        }
        byte[] sealed = Arrays.copyOfRange(bytes, 15, 15 + length);
        byte[] nonce = Arrays.copyOfRange(bytes, 5, 13);
        inbox = Spec.xor(sealed, Spec.stream(keys[d].seal(), nonce, length));
        return 0;
    }

    int got(int i) {
        return i >= 0 && i < inbox.length ? inbox[i] & 255 : -1;
    }

    int gotLen() {
        return inbox.length;
    }

    boolean corrupt(int slot, int i, int b) {
        if (i < 0 || i >= sizeOf(slot) || b < 0 || b > 255) {
            return false;
        }
        slots[slot][i] = (byte) b;
        return true;
    }

    boolean drop(int slot) {
        if (sizeOf(slot) == 0) {
            return false;
        }
        slots[slot] = null;
        return true;
    }

    int rekey(int side) {
        if (side != 0 && side != 1 || !opened) {
            return -1;
        }
        keys[side] = keys[side].next(side);
        next[side] = 0;
        seen[side].clear();
        return ++epochs[side];
    }

    int wireAt(int slot, int i) {
        return i >= 0 && i < sizeOf(slot) ? slots[slot][i] & 255 : -1;
    }

    int count(int what) {
        switch (what) {
            case 0:
                return (int) Arrays.stream(slots).filter(slot -> slot != null).count();
            case 1:
                return outbox.length;
            case 2:
            case 3:
                return opened ? epochs[what - 2] : -1;
            case 4:
            case 5:
                int d = what - 4;
                return seen[d].isEmpty() ? 0 : seen[d].tailSet(lowest(d)).size();
            default:
                return -1;
        }
    }

    int sizeOf(int slot) {
        return slot < 0 || slot > 7 || slots[slot] == null ? 0 : slots[slot].length;
    }

    /** What the slot would hold if its record had this number and the tag that is right for it. */
    byte[] forged(int slot, int direction, long number) {
        byte[] untagged = Arrays.copyOf(slots[slot], slots[slot].length - 16);
        ByteBuffer.wrap(untagged).putLong(5, number);
        return Spec.tagged(keys[direction], untagged);
    }

    /** The greatest number that was seen; 0 before any. */
    long greatest(int direction) {
        return seen[direction].isEmpty() ? 0 : seen[direction].last().longValue();
    }

    boolean isOpened() {
        return opened;
    }

    private BigInteger lowest(int direction) {
        return seen[direction].last().subtract(BigInteger.valueOf(63));
    }
}
