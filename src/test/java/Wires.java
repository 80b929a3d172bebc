/** What several tests do with a wire. */
final class Wires {
    static final int[] NO_BYTES = {-1, 256, 257, -256, Integer.MIN_VALUE, Integer.MAX_VALUE};
    static final int[] NO_SIDES = {-1, 2, 3, Integer.MIN_VALUE, Integer.MAX_VALUE};
    static final int[] NO_SLOTS = {-1, 8, 9, Integer.MIN_VALUE, Integer.MAX_VALUE};
    static final int[] NO_PLACES = {-1, 32, 33, Integer.MIN_VALUE, Integer.MAX_VALUE};
    static final byte[] NO_TEXT = new byte[0];
    static final byte[] ZERO_KEY = new byte[32];

    /** The shared key of the scenes below. */
    static final byte[] SCENE_KEY = sceneKey();

    private Wires() {
    }

    /** Bytes that use the whole range and differ from one first byte to another. */
    static byte[] text(int length, int first) {
        byte[] text = new byte[length];
        for (int i = 0; i < length; i++) {
            text[i] = (byte) (first + 37 * i);
        }
        return text;
    }

    static void putText(Wire wire, byte[] text) {
        for (byte b : text) {
            wire.put(b & 255);
        }
    }

    static int sendText(Wire wire, int side, byte[] text) {
        putText(wire, text);
        return wire.send(side);
    }

    static void setKey(Wire wire, byte[] key) {
        for (int i = 0; i < key.length; i++) {
            if (key[i] != 0) {
                wire.setPsk(i, key[i] & 255);
            }
        }
    }

    static void overwrite(Wire wire, int slot, byte[] bytes) {
        for (int i = 0; i < bytes.length; i++) {
            wire.corrupt(slot, i, bytes[i] & 255);
        }
    }

    /** The record that a side sends on a wire with this shared key. */
    static byte[] record(byte[] sharedKey, int side, int epoch, long number, byte[] text) {
        return Spec.record(Spec.Keys.at(side, sharedKey, epoch), side, epoch, number, text);
    }

    /** A closed wire with something in all that a closed one can have. */
    static void closed(Wire wire) {
        setKey(wire, SCENE_KEY);
        wire.put(9);
        wire.put(200);
    }

    /**
     * An open wire with something in every part. Slots 0, 1, 3 and 4 have the numbers 0, 1, 3 and 4
     * from side 0, of which 0 and 3 are seen; slots 5 and 6 have 0 and 1 from side 1 in epoch 1, of
     * which 0 is seen, so that the inbox has its text; slots 2 and 7 are empty.
     */
    static void busy(Wire wire) {
        setKey(wire, SCENE_KEY);
        wire.open();
        wire.rekey(1);
        for (int number = 0; number < 5; number++) {
            sendText(wire, 0, text(3 + number, number));
        }
        sendText(wire, 1, text(2, 50));
        sendText(wire, 1, text(4, 60));
        wire.deliver(0, 1);
        wire.deliver(3, 1);
        wire.deliver(5, 0);
        wire.drop(2);
        wire.put(9);
        wire.put(200);
    }

    /** A busy wire whose slots 2 and 7 have the numbers 5 from side 0 and 2 from side 1. */
    static void full(Wire wire) {
        busy(wire);
        wire.send(0);
        wire.send(1);
        wire.put(9);
        wire.put(200);
    }

    private static byte[] sceneKey() {
        byte[] key = new byte[32];
        key[0] = 17;
        key[31] = (byte) 255;
        return key;
    }
}
