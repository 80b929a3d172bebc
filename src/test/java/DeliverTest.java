import java.nio.ByteBuffer;
import java.util.Arrays;

/** Promise 7: each answer of deliver, which goes before which, and the edges of the window. */
final class DeliverTest {
    private static final Due due = new Due("DeliverTest");
    private static final byte[] ZERO_KEY = new byte[32];
    private static final byte[] NO_TEXT = new byte[0];

    public static void main(String[] args) {
        taken();
        nothingToDeliver();
        wrongDirection();
        wrongLength();
        wrongEpoch();
        wrongTag();
        firstReasonCounts();
        seenBefore();
        nothingChangesWhenRefused();
        windowOfSentRecords();
        windowSlides();
        windowJumps();
        numbersWithoutSign();
        firstNumberIsAny();
        windowsAreApart();
        forgedText();
        due.end();
    }

    private static void taken() {
        for (int side = 0; side < 2; side++) {
            for (int length = 0; length <= 96; length++) {
                RecordWire wire = Wires.opened();
                byte[] text = Wires.text(length, 3 * length);
                Wires.sendText(wire, 1 - side, text);
                due.is("deliver(0, " + side + ")", wire.deliver(0, side), 0);
                Wires.inboxIs(due, "taken, length " + length, wire, text);
                Wires.slotIs(due, "taken, the slot stays", wire, 0,
                        Spec.record(keys(1 - side), 1 - side, 0, 0, text));
                due.is("taken: count", wire.count(5 - side), 1);
                due.is("taken: count of the other", wire.count(4 + side), 0);
            }
        }
    }

    private static void nothingToDeliver() {
        RecordWire wire = new RecordWire();
        due.is("deliver(0, 1), closed", wire.deliver(0, 1), 1);
        wire.open();
        for (int slot = 0; slot < 8; slot++) {
            due.is("deliver(" + slot + ", 1), empty", wire.deliver(slot, 1), 1);
        }
        wire.send(0);
        for (int slot : Wires.NO_SLOTS) {
            due.is("deliver(" + slot + ", 1)", wire.deliver(slot, 1), 1);
        }
        for (int side : Wires.NO_SIDES) {
            due.is("deliver(0, " + side + ")", wire.deliver(0, side), 1);
        }
        wire.drop(0);
        due.is("deliver(0, 1), dropped", wire.deliver(0, 1), 1);
    }

    private static void wrongDirection() {
        RecordWire wire = Wires.opened();
        wire.send(0);
        wire.send(1);
        due.is("deliver(0, 0)", wire.deliver(0, 0), 2);
        due.is("deliver(1, 1)", wire.deliver(1, 1), 2);
        for (int none : new int[] {2, 3, 128, 254, 255}) {
            for (int side = 0; side < 2; side++) {
                byte[] untagged = new byte[15];
                untagged[0] = (byte) none;
                Wires.overwrite(wire, 0, Spec.tagged(keys(1 - side), untagged));
                due.is("deliver, direction " + none, wire.deliver(0, side), 2);
            }
        }
        // The byte of the direction alone says which way a record goes, not who sent it.
        Wires.overwrite(wire, 0, Spec.record(keys(1), 1, 0, 5, NO_TEXT));
        due.is("deliver(0, 1), now the other way", wire.deliver(0, 1), 2);
        due.is("deliver(0, 0), now the other way", wire.deliver(0, 0), 0);
    }

    private static void wrongLength() {
        for (int length : new int[] {0, 1, 50, 95, 96}) {
            for (int claimed : new int[] {length - 1, length + 1, length + 256, 97, 0xff00, 0xffff}) {
                wrongLength(length, claimed);
            }
        }
    }

    private static void wrongLength(int length, int claimed) {
        RecordWire wire = Wires.opened();
        byte[] text = Wires.text(length, 8);
        Wires.sendText(wire, 0, text);
        byte[] right = Spec.record(keys(0), 0, 0, 0, text);
        byte[] untagged = Arrays.copyOf(right, 15 + length);
        ByteBuffer.wrap(untagged).putShort(13, (short) claimed);
        Wires.overwrite(wire, 0, Spec.tagged(keys(0), untagged));
        due.is("deliver, length " + length + " as " + claimed, wire.deliver(0, 1), 2);
        Wires.overwrite(wire, 0, right);
        due.is("deliver, length " + length, wire.deliver(0, 1), 0);
    }

    private static void wrongEpoch() {
        RecordWire wire = Wires.opened();
        wire.rekey(0);
        wire.send(0);
        wire.send(0);
        Spec.Keys now = Spec.Keys.at(0, ZERO_KEY, 1);
        for (int epoch : new int[] {0, 2, 257, 1 << 24 | 1, Integer.MIN_VALUE | 1, -1}) {
            Wires.overwrite(wire, 0, Spec.record(now, 0, epoch, 0, NO_TEXT));
            due.is("deliver, epoch " + epoch, wire.deliver(0, 1), 3);
        }
        Wires.overwrite(wire, 0, Spec.record(now, 0, 1, 0, NO_TEXT));
        due.is("deliver, epoch 1", wire.deliver(0, 1), 0);
        wire.rekey(0);
        due.is("deliver(1, 1), gone on since", wire.deliver(1, 1), 3);
        // The keys went on too: the epoch's number alone does not make an old record good.
        wire.corrupt(1, 4, 2);
        due.is("deliver(1, 1), old keys", wire.deliver(1, 1), 4);
    }

    private static void wrongTag() {
        RecordWire wire = Wires.opened();
        byte[] text = Wires.text(4, 99);
        Wires.sendText(wire, 0, text);
        byte[] right = Spec.record(keys(0), 0, 0, 0, text);
        for (int i = 5; i < right.length; i++) {
            if (i == 13 || i == 14) {
                continue;
            }
            wire.corrupt(0, i, right[i] & 255 ^ 1);
            due.is("deliver, byte " + i + " changed", wire.deliver(0, 1), 4);
            wire.corrupt(0, i, right[i] & 255 ^ 128);
            due.is("deliver, byte " + i + " changed", wire.deliver(0, 1), 4);
            wire.corrupt(0, i, right[i] & 255);
        }
        Wires.inboxIs(due, "wrong tags", wire, NO_TEXT);
        due.is("deliver, all as it was", wire.deliver(0, 1), 0);
        Wires.inboxIs(due, "the right tag", wire, text);
    }

    private static void firstReasonCounts() {
        RecordWire wire = Wires.opened();
        wire.send(0);
        due.is("deliver(0, 1)", wire.deliver(0, 1), 0);
        due.is("deliver(0, 1), 6", wire.deliver(0, 1), 6);
        wire.corrupt(0, 30, wire.wireAt(0, 30) ^ 255);
        due.is("deliver(0, 1), 4 before 6", wire.deliver(0, 1), 4);
        wire.corrupt(0, 1, 1);
        due.is("deliver(0, 1), 3 before 4", wire.deliver(0, 1), 3);
        wire.corrupt(0, 14, 1);
        due.is("deliver(0, 1), 2 before 3", wire.deliver(0, 1), 2);
        due.is("deliver(0, 2), 1 before 2", wire.deliver(0, 2), 1);
        wire.corrupt(0, 14, 0);
        wire.corrupt(0, 0, 1);
        due.is("deliver(0, 1), 2 before 3, by direction", wire.deliver(0, 1), 2);

        RecordWire old = Wires.opened();
        old.send(0);
        due.is("forged 100", forged(old, 0, 100), 0);
        due.is("forged 36", forged(old, 0, 36), 5);
        old.corrupt(0, 30, old.wireAt(0, 30) ^ 1);
        due.is("deliver(0, 1), 4 before 5", old.deliver(0, 1), 4);
        old.corrupt(0, 2, 1);
        due.is("deliver(0, 1), 3 before 5", old.deliver(0, 1), 3);
    }

    private static void seenBefore() {
        RecordWire wire = Wires.opened();
        for (int slot = 0; slot < 8; slot++) {
            wire.send(1);
        }
        for (int slot : new int[] {3, 0, 7, 5, 1, 2, 6, 4}) {
            due.is("deliver(" + slot + ", 0)", wire.deliver(slot, 0), 0);
            due.is("deliver(" + slot + ", 0), again", wire.deliver(slot, 0), 6);
        }
        for (int slot = 0; slot < 8; slot++) {
            due.is("deliver(" + slot + ", 0), later", wire.deliver(slot, 0), 6);
        }
        due.is("count(5)", wire.count(5), 8);
    }

    private static void nothingChangesWhenRefused() {
        RecordWire wire = Wires.opened();
        byte[] text = Wires.text(6, 21);
        Wires.sendText(wire, 0, text);
        wire.deliver(0, 1);
        wire.put(9);
        Wires.sendText(wire, 0, Wires.text(2, 1));
        wire.put(9);
        int tagByte = wire.wireAt(1, 20);
        wire.corrupt(1, 20, tagByte ^ 4);
        due.is("deliver(1, 1), 4", wire.deliver(1, 1), 4);
        due.is("deliver(1, 0), 2", wire.deliver(1, 0), 2);
        due.is("deliver(0, 1), 6", wire.deliver(0, 1), 6);
        due.is("deliver(2, 1), 1", wire.deliver(2, 1), 1);
        Wires.inboxIs(due, "refused", wire, text);
        Wires.countsAre(due, "refused", wire, 2, 1, 0, 0, 1, 0);
        wire.corrupt(1, 20, tagByte);
        due.is("deliver(1, 1), mended", wire.deliver(1, 1), 0);
    }

    /** Without any forging: number 0 waits in its slot while others come. */
    private static void windowOfSentRecords() {
        for (int greatest = 62; greatest <= 65; greatest++) {
            RecordWire wire = Wires.opened();
            wire.send(0);
            for (int number = 1; number < greatest; number++) {
                wire.send(0);
                wire.drop(1);
            }
            wire.send(0);
            due.is("deliver(1, 1), " + greatest, wire.deliver(1, 1), 0);
            due.is("deliver(0, 1), behind " + greatest, wire.deliver(0, 1), greatest < 64 ? 0 : 5);
            due.is("count(4)", wire.count(4), greatest < 64 ? 2 : 1);
        }
        RecordWire all = Wires.opened();
        for (int number = 0; number < 100; number++) {
            all.send(1);
            due.is("deliver(0, 0), " + number, all.deliver(0, 0), 0);
            due.is("count(5), " + number, all.count(5), Math.min(64, number + 1));
            all.drop(0);
        }
    }

    private static void windowSlides() {
        RecordWire wire = Wires.opened();
        wire.send(0);
        numbers(wire, new long[][] {
            {10, 0}, {3, 0}, {10, 6}, {3, 6}, {66, 0}, {3, 6}, {2, 5}, {4, 0}, {67, 0}, {3, 5},
            {4, 6}, {5, 0}, {10, 6}, {73, 0}, {10, 6}, {74, 0}, {10, 5}, {11, 0}
        });
        // 11, 66, 67, 73 and 74 are left of those seen.
        due.is("count(4), slid", wire.count(4), 5);
    }

    private static void windowJumps() {
        for (long step : new long[] {63, 64, 65, 127, 128, 1L << 32, 1L << 62}) {
            RecordWire wire = Wires.opened();
            wire.send(0);
            long first = 1000;
            due.is("number " + first, forged(wire, 0, first), 0);
            due.is("number " + (first + step), forged(wire, 0, first + step), 0);
            due.is("count(4), step " + step, wire.count(4), step < 64 ? 2 : 1);
            due.is("number " + first + " again", forged(wire, 0, first), step < 64 ? 6 : 5);
            due.is("the edge", forged(wire, 0, first + step - 63), step == 63 ? 6 : 0);
            due.is("behind the edge", forged(wire, 0, first + step - 64), 5);
            due.is("between", forged(wire, 0, first + step - 1), 0);
            due.is("far below", forged(wire, 0, 0), 5);
        }
    }

    private static void numbersWithoutSign() {
        RecordWire wire = Wires.opened();
        wire.send(0);
        numbers(wire, new long[][] {
            {Long.MAX_VALUE, 0}, {Long.MIN_VALUE, 0}, {Long.MAX_VALUE, 6}, {Long.MIN_VALUE, 6},
            {Long.MAX_VALUE - 62, 0}, {Long.MAX_VALUE - 63, 5}, {0, 5}, {-1, 0},
            {Long.MIN_VALUE, 5}, {0, 5}, {-64, 0}, {-65, 5}, {-1, 6}
        });
        due.is("count(4), without sign", wire.count(4), 2);

        RecordWire low = Wires.opened();
        low.send(0);
        numbers(low, new long[][] {{0, 0}, {-1, 0}, {0, 5}, {1, 5}, {62, 5}, {63, 5}, {-2, 0}});

        // The window of a small number does not go round below 0.
        RecordWire small = Wires.opened();
        small.send(0);
        numbers(small, new long[][] {{5, 0}, {0, 0}, {-1, 0}, {5, 5}});
    }

    private static void firstNumberIsAny() {
        for (long number : new long[] {0, 1, 63, 64, 1000, Long.MAX_VALUE, Long.MIN_VALUE, -1}) {
            RecordWire wire = Wires.opened();
            wire.send(0);
            due.is("first " + number, forged(wire, 0, number), 0);
            due.is("first " + number + " again", forged(wire, 0, number), 6);
            due.is("count(4)", wire.count(4), 1);
            wire.rekey(0);
            wire.drop(0);
            wire.send(0);
            due.is("nothing is seen any more", wire.deliver(0, 1), 0);
        }
    }

    private static void windowsAreApart() {
        RecordWire wire = Wires.opened();
        wire.send(0);
        wire.send(1);
        due.is("one way", forged(wire, 0, 500), 0);
        due.is("the other way", wire.deliver(1, 0), 0);
        due.is("the other way again", wire.deliver(1, 0), 6);
        // What comes in does not touch the numbers that go out.
        wire.drop(0);
        wire.send(0);
        Wires.slotIs(due, "the next number", wire, 0, Spec.record(keys(0), 0, 0, 1, NO_TEXT));
        due.is("too old", wire.deliver(0, 1), 5);
    }

    /** The nonce is the number that stands in the record, all 8 bytes of it. */
    private static void forgedText() {
        for (long number : new long[] {1, 0x0102030405060708L, 0xf1e2d3c4b5a69788L, -1}) {
            RecordWire wire = Wires.opened();
            byte[] text = Wires.text(90, 17);
            Wires.sendText(wire, 1, Wires.text(90, 0));
            Wires.overwrite(wire, 0, Spec.record(keys(1), 1, 0, number, text));
            due.is("deliver(0, 0), number " + number, wire.deliver(0, 0), 0);
            Wires.inboxIs(due, "number " + number, wire, text);
        }
    }

    private static Spec.Keys keys(int direction) {
        return Spec.Keys.opened(direction, ZERO_KEY);
    }

    /** Slot 0, which has a record without text, is delivered with this number and a right tag. */
    private static int forged(RecordWire wire, int direction, long number) {
        byte[] bytes = Spec.record(keys(direction), direction, 0, number, NO_TEXT);
        for (int i = 5; i < bytes.length; i++) {
            if (i != 13 && i != 14) {
                wire.corrupt(0, i, bytes[i] & 255);
            }
        }
        return wire.deliver(0, 1 - direction);
    }

    private static void numbers(RecordWire wire, long[][] numbersAndAnswers) {
        for (long[] row : numbersAndAnswers) {
            due.is("deliver, number " + Long.toUnsignedString(row[0]), forged(wire, 0, row[0]), row[1]);
        }
    }
}
