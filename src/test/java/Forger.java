import java.util.Arrays;

/**
 * A record without text, sent into an empty slot, that comes again and again with other numbers and
 * the tags that are right for them: only so do numbers of any size get as far as the window.
 */
final class Forger {
    private final Wire wire;
    private final int direction;
    private final int epoch;
    private final Spec.Keys keys;
    private final int slot;
    private byte[] bytes;

    Forger(Wire wire, int direction, byte[] sharedKey) {
        this(wire, direction, sharedKey, 0, 0);
    }

    /** The next number is that which the direction's next record will have. */
    Forger(Wire wire, int direction, byte[] sharedKey, int epoch, long nextNumber) {
        this.wire = wire;
        this.direction = direction;
        this.epoch = epoch;
        this.keys = Spec.Keys.at(direction, sharedKey, epoch);
        this.slot = wire.send(direction);
        this.bytes = record(nextNumber);
    }

    int deliver(long number) {
        become(record(number));
        return wire.deliver(slot, 1 - direction);
    }

    int slot() {
        return slot;
    }

    private byte[] record(long number) {
        return Spec.record(keys, direction, epoch, number, Wires.NO_TEXT);
    }

    // A test has 512 calls, so a byte that is right already is left alone.
    private void become(byte[] wanted) {
        for (int i = 0; i < wanted.length; i++) {
            if (wanted[i] != bytes[i]) {
                wire.corrupt(slot, i, wanted[i] & 255);
            }
        }
        bytes = Arrays.copyOf(wanted, wanted.length);
    }
}
