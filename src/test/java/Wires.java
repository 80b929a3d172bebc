/**
 * What several tests do with a wire. The tests keep to 512 calls on an object, since nothing is
 * promised behind them.
 */
final class Wires {
    static final int[] NO_BYTES = {-1, 256, -256, Integer.MIN_VALUE, Integer.MAX_VALUE};
    static final int[] NO_SIDES = {-1, 2, 3, Integer.MIN_VALUE, Integer.MAX_VALUE};
    static final int[] NO_SLOTS = {-1, 8, 9, Integer.MIN_VALUE, Integer.MAX_VALUE};

    private Wires() {
    }

    static RecordWire opened() {
        RecordWire wire = new RecordWire();
        wire.open();
        return wire;
    }

    /** Bytes that use the whole range and differ from one first byte to another. */
    static byte[] text(int length, int first) {
        byte[] text = new byte[length];
        for (int i = 0; i < length; i++) {
            text[i] = (byte) (first + 37 * i);
        }
        return text;
    }

    static int sendText(RecordWire wire, int side, byte[] text) {
        for (byte b : text) {
            wire.put(b & 255);
        }
        return wire.send(side);
    }

    static void overwrite(RecordWire wire, int slot, byte[] bytes) {
        for (int i = 0; i < bytes.length; i++) {
            wire.corrupt(slot, i, bytes[i] & 255);
        }
    }

    static void slotIs(Due due, String when, RecordWire wire, int slot, byte[] want) {
        for (int i = 0; i < want.length; i++) {
            due.is(when + ": wireAt(" + slot + ", " + i + ")", wire.wireAt(slot, i), want[i] & 255);
        }
        due.is(when + ": wireAt(" + slot + ", " + want.length + ")",
                wire.wireAt(slot, want.length), -1);
    }

    static void inboxIs(Due due, String when, RecordWire wire, byte[] want) {
        due.is(when + ": gotLen()", wire.gotLen(), want.length);
        for (int i = 0; i < want.length; i++) {
            due.is(when + ": got(" + i + ")", wire.got(i), want[i] & 255);
        }
        due.is(when + ": got(" + want.length + ")", wire.got(want.length), -1);
    }

    static void countsAre(Due due, String when, RecordWire wire, int... want) {
        for (int what = 0; what < want.length; what++) {
            due.is(when + ": count(" + what + ")", wire.count(what), want[what]);
        }
    }
}
