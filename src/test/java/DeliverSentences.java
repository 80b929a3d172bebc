import java.nio.ByteBuffer;
import java.util.Arrays;
import java.util.List;
import java.util.function.Consumer;

/** The sentences of promise 7: deliver. */
final class DeliverSentences {
    private static final String FIRST = "the first that holds of:";
    private static final String ELSE = "else nothing changes:";
    private static final byte[] ZERO_KEY = Wires.ZERO_KEY;
    private static final byte[] NO_TEXT = Wires.NO_TEXT;

    private DeliverSentences() {
    }

    static List<Sentence> all() {
        return List.of(
                says("A slot's record comes to a side", "each of 8 slots, either side",
                        DeliverSentences::anySlot),
                says("(the slot stays):", "taken or refused", DeliverSentences::slotStays),
                says("0 it is taken: the inbox has its text,", "every length",
                        DeliverSentences::takesText),
                says("its number is seen;", "in its own direction alone",
                        DeliverSentences::numberIsSeen),
                says(ELSE, "answer 1", DeliverSentences::nothingChangesAt1),
                says(ELSE, "answer 2", DeliverSentences::nothingChangesAt2),
                says(ELSE, "answer 3", DeliverSentences::nothingChangesAt3),
                says(ELSE, "answer 4", DeliverSentences::nothingChangesAt4),
                says(ELSE, "answer 5", DeliverSentences::nothingChangesAt5),
                says(ELSE, "answer 6", DeliverSentences::nothingChangesAt6),
                says(FIRST, "1 before all others", DeliverSentences::oneComesFirst),
                says(FIRST, "2 before 3 to 6", DeliverSentences::twoBeforeLater),
                says(FIRST, "3 before 4 to 6", DeliverSentences::threeBeforeLater),
                says(FIRST, "4 before 5 and 6", DeliverSentences::fourBeforeLater),
                says(FIRST, "5 before 6", DeliverSentences::fiveBeforeSix),
                says("1 no such slot or side,", "no such slot", DeliverSentences::noSlot),
                says("1 no such slot or side,", "no such side", DeliverSentences::noSide),
                says("closed,", "new, and behind init", DeliverSentences::closed),
                says("or an empty slot;", "never used, and dropped", DeliverSentences::emptySlot),
                says("2 its direction is not to that side (or none),", "the other one",
                        DeliverSentences::otherDirection),
                says("2 its direction is not to that side (or none),", "none",
                        DeliverSentences::noDirection),
                says("or its length is above 96,", "97 and more", DeliverSentences::lengthAbove96),
                says("or not that of the slot's bytes;", "one less, one more, 0, 96",
                        DeliverSentences::otherLength),
                says("3 another epoch than the direction's;", "one less, one more, any byte of it",
                        DeliverSentences::otherEpoch),
                says("3 another epoch than the direction's;", "gone on since",
                        DeliverSentences::epochBefore),
                says("4 a wrong tag;", "any byte changed", DeliverSentences::anyByteChanged),
                says("4 a wrong tag;", "another key's", DeliverSentences::tagOfAnotherKey),
                says("5 its number is 64 or more below the greatest seen;", "63, 64 and more below",
                        DeliverSentences::belowTheWindow),
                says("5 its number is 64 or more below the greatest seen;", "numbers as sent",
                        DeliverSentences::belowTheWindowAsSent),
                says("6 it was seen.", "all the window through", DeliverSentences::wasSeen),
                says("6 it was seen.", "in any order", DeliverSentences::wasSeenInAnyOrder),
                says("(Numbers go without sign.)", "about the half", DeliverSentences::aboutTheHalf),
                says("(Numbers go without sign.)", "the greatest of all and the least",
                        DeliverSentences::aboutTheEnds),
                says("(Numbers go without sign.)", "no way round below 0",
                        DeliverSentences::noWayRound));
    }

    private static Sentence says(String words, String edge, Consumer<Trial> test) {
        return Sentence.promise(7, words, edge, test);
    }

    private static void anySlot(Trial t) {
        for (int first = 0; first < 2; first++) {
            Wire wire = t.opened();
            for (int slot = 0; slot < 8; slot++) {
                Wires.sendText(wire, (slot + first) % 2, Wires.text(1 + slot, slot));
            }
            for (int slot = 7; slot >= 0; slot--) {
                t.due(0, wire.deliver(slot, 1 - (slot + first) % 2));
                t.inboxIs(Wires.text(1 + slot, slot), wire);
            }
        }
    }

    private static void slotStays(Trial t) {
        byte[] text = Wires.text(5, 2);
        byte[] record = Wires.record(ZERO_KEY, 0, 0, 0, text);
        Wire wire = t.opened();
        Wires.sendText(wire, 0, text);
        t.due(2, wire.deliver(0, 0));
        t.slotIs(record, wire, 0);
        t.due(0, wire.deliver(0, 1));
        t.slotIs(record, wire, 0);
        t.due(6, wire.deliver(0, 1));
        t.slotIs(record, wire, 0);
        t.due(1, wire.count(0));
        t.due(1, wire.send(0));
    }

    private static void takesText(Trial t) {
        for (int length = 0; length <= 96; length++) {
            byte[] text = Wires.text(length, 3 * length);
            Wire wire = t.opened();
            Wires.sendText(wire, length % 2, text);
            t.due(0, wire.deliver(0, 1 - length % 2));
            t.inboxIs(text, wire);
        }
    }

    private static void numberIsSeen(Trial t) {
        for (int side = 0; side < 2; side++) {
            Wire wire = t.opened();
            wire.send(0);
            wire.send(1);
            t.due(0, wire.deliver(side, 1 - side));
            t.due(1, wire.count(4 + side));
            t.due(0, wire.count(5 - side));
            t.due(6, wire.deliver(side, 1 - side));
            t.due(0, wire.deliver(1 - side, side));
            t.due(1, wire.count(5 - side));
        }
    }

    /** The answer is due on a wire that has been through all before, and changes nothing there. */
    private static void refused(Trial t, int answer, Consumer<Wire> before, int slot, int side) {
        t.due(answer, t.after(before).deliver(slot, side));
        t.changesNothing(before, wire -> wire.deliver(slot, side));
    }

    private static void nothingChangesAt1(Trial t) {
        for (int slot : new int[] {-1, 8, 2, 7}) {
            refused(t, 1, Wires::busy, slot, 0);
            refused(t, 1, Wires::busy, slot, 1);
        }
        for (int side : new int[] {-1, 2}) {
            refused(t, 1, Wires::busy, 1, side);
            refused(t, 1, Wires::busy, 6, side);
        }
        refused(t, 1, Wires::closed, 0, 0);
        refused(t, 1, Wires::closed, 0, 1);
    }

    private static void nothingChangesAt2(Trial t) {
        refused(t, 2, Wires::busy, 1, 0);
        refused(t, 2, Wires::busy, 6, 1);
        refused(t, 2, busyWith(1, 0, 1), 1, 1);
        refused(t, 2, busyWith(1, 0, 2), 1, 1);
        refused(t, 2, busyWith(1, 13, 1), 1, 1);
        refused(t, 2, busyWith(1, 14, 97), 1, 1);
        refused(t, 2, busyWith(6, 14, 3), 6, 0);
    }

    private static void nothingChangesAt3(Trial t) {
        refused(t, 3, busyWith(1, 4, 1), 1, 1);
        refused(t, 3, busyWith(6, 4, 0), 6, 0);
        refused(t, 3, busyWith(6, 1, 128), 6, 0);
        refused(t, 3, wire -> {
            Wires.busy(wire);
            wire.rekey(0);
        }, 1, 1);
    }

    private static void nothingChangesAt4(Trial t) {
        refused(t, 4, busyWith(1, 12, 9), 1, 1);
        refused(t, 4, busyWith(1, 5, 255), 1, 1);
        refused(t, 4, wire -> {
            Wires.busy(wire);
            wire.corrupt(6, 34, wire.wireAt(6, 34) ^ 1);
        }, 6, 0);
        // What was refused is taken when it has its byte again.
        Wire wire = t.after(Wires::busy);
        int was = wire.wireAt(1, 16);
        wire.corrupt(1, 16, was ^ 128);
        t.due(4, wire.deliver(1, 1));
        wire.corrupt(1, 16, was);
        t.due(0, wire.deliver(1, 1));
        t.inboxIs(Wires.text(4, 1), wire);
    }

    private static void nothingChangesAt5(Trial t) {
        Consumer<Wire> far = wire -> {
            Wires.busy(wire);
            Wires.overwrite(wire, 4,
                    Wires.record(Wires.SCENE_KEY, 0, 0, 65, Wires.text(7, 4)));
            wire.deliver(4, 1);
        };
        refused(t, 5, far, 1, 1);
        refused(t, 5, far, 0, 1);
    }

    private static void nothingChangesAt6(Trial t) {
        refused(t, 6, Wires::busy, 0, 1);
        refused(t, 6, Wires::busy, 3, 1);
        refused(t, 6, Wires::busy, 5, 0);
    }

    private static Consumer<Wire> busyWith(int slot, int i, int b) {
        return wire -> {
            Wires.busy(wire);
            wire.corrupt(slot, i, b);
        };
    }

    private static void oneComesFirst(Trial t) {
        Wire wire = t.after(Wires::busy);
        t.due(1, wire.deliver(0, 2));
        t.due(1, wire.deliver(0, -1));
        wire.corrupt(1, 20, wire.wireAt(1, 20) ^ 1);
        t.due(1, wire.deliver(1, 2));
        wire.corrupt(1, 4, 7);
        t.due(1, wire.deliver(1, 2));
        wire.corrupt(1, 0, 2);
        t.due(1, wire.deliver(1, 2));
        t.due(1, wire.deliver(1, 3));
        t.due(2, wire.deliver(1, 1));
    }

    private static void twoBeforeLater(Trial t) {
        // Seen, and of another length or direction with the tag that is right for it: 2 before 6.
        Wire seen = t.opened();
        seen.send(0);
        t.due(0, seen.deliver(0, 1));
        Wires.overwrite(seen, 0, withRightTag(0, head(0, 0, 0, 1)));
        t.due(2, seen.deliver(0, 1));
        Wires.overwrite(seen, 0, withRightTag(0, head(1, 0, 0, 0)));
        t.due(2, seen.deliver(0, 1));
        // With a wrong tag too: 2 before 4; in another epoch too: 2 before 3.
        seen.corrupt(0, 30, seen.wireAt(0, 30) ^ 1);
        t.due(2, seen.deliver(0, 1));
        seen.corrupt(0, 1, 1);
        t.due(2, seen.deliver(0, 1));
        seen.corrupt(0, 0, 0);
        t.due(3, seen.deliver(0, 1));

        Wire old = t.opened();
        t.due(0, new Forger(old, 0, ZERO_KEY).deliver(64));
        Wires.overwrite(old, 0, withRightTag(0, head(0, 0, 0, 97)));
        t.due(2, old.deliver(0, 1));
    }

    private static void threeBeforeLater(Trial t) {
        Wire wire = t.opened();
        Forger forger = new Forger(wire, 0, ZERO_KEY);
        t.due(0, forger.deliver(64));
        // Seen, or too old, or new, and each with the tag that is right for it.
        for (long number : new long[] {64, 0, 65}) {
            Wires.overwrite(wire, 0, withRightTag(0, head(0, 1, number, 0)));
            t.due(3, wire.deliver(0, 1));
        }
        wire.corrupt(0, 30, wire.wireAt(0, 30) ^ 1);
        t.due(3, wire.deliver(0, 1));
        wire.corrupt(0, 4, 0);
        t.due(4, wire.deliver(0, 1));
    }

    private static void fourBeforeLater(Trial t) {
        Wire wire = t.opened();
        Forger forger = new Forger(wire, 0, ZERO_KEY);
        t.due(0, forger.deliver(100));
        for (long number : new long[] {100, 36, 0}) {
            Wires.overwrite(wire, 0, withRightTag(0, head(0, 0, number, 0)));
            t.due(number == 100 ? 6 : 5, wire.deliver(0, 1));
            wire.corrupt(0, 30, wire.wireAt(0, 30) ^ 1);
            t.due(4, wire.deliver(0, 1));
        }
    }

    private static void fiveBeforeSix(Trial t) {
        Wire wire = t.opened();
        Forger forger = new Forger(wire, 0, ZERO_KEY);
        t.due(0, forger.deliver(10));
        t.due(6, forger.deliver(10));
        t.due(0, forger.deliver(73));
        t.due(6, forger.deliver(10));
        t.due(0, forger.deliver(74));
        t.due(5, forger.deliver(10));
        t.due(6, forger.deliver(74));
    }

    private static void noSlot(Trial t) {
        Wire wire = t.after(Wires::full);
        for (int slot : Wires.NO_SLOTS) {
            t.due(1, wire.deliver(slot, 0));
            t.due(1, wire.deliver(slot, 1));
            t.due(1, wire.deliver(slot, 2));
        }
        t.due(0, wire.deliver(7, 0));
    }

    private static void noSide(Trial t) {
        Wire wire = t.after(Wires::full);
        for (int side : Wires.NO_SIDES) {
            t.due(1, wire.deliver(1, side));
            t.due(1, wire.deliver(7, side));
        }
        t.due(0, wire.deliver(1, 1));
    }

    private static void closed(Trial t) {
        Wire wire = t.after(Wires::closed);
        for (int slot = -1; slot <= 8; slot++) {
            t.due(1, wire.deliver(slot, 0));
            t.due(1, wire.deliver(slot, 1));
        }
        Wire once = t.after(Wires::busy);
        once.init();
        t.due(1, once.deliver(1, 1));
        t.due(1, once.deliver(1, 0));
    }

    private static void emptySlot(Trial t) {
        Wire wire = t.opened();
        for (int slot = 0; slot < 8; slot++) {
            t.due(1, wire.deliver(slot, 0));
            t.due(1, wire.deliver(slot, 1));
            wire.send(0);
        }
        for (int slot = 0; slot < 8; slot++) {
            wire.drop(slot);
            t.due(1, wire.deliver(slot, 1));
            t.due(1, wire.deliver(slot, 0));
        }
    }

    private static void otherDirection(Trial t) {
        Wire wire = t.opened();
        wire.send(0);
        wire.send(1);
        t.due(2, wire.deliver(0, 0));
        t.due(2, wire.deliver(1, 1));
        // The byte alone says which way a record goes, not who sent it.
        Wires.overwrite(wire, 0, Wires.record(ZERO_KEY, 1, 0, 5, NO_TEXT));
        t.due(2, wire.deliver(0, 1));
        t.due(0, wire.deliver(0, 0));
    }

    private static void noDirection(Trial t) {
        for (int none : new int[] {2, 3, 127, 128, 129, 254, 255}) {
            for (int side = 0; side < 2; side++) {
                Wire wire = t.opened();
                wire.send(1 - side);
                Wires.overwrite(wire, 0, withRightTag(1 - side, head(none, 0, 0, 0)));
                t.due(2, wire.deliver(0, side));
                t.due(2, wire.deliver(0, 1 - side));
                wire.corrupt(0, 0, 1 - side);
                t.due(4, wire.deliver(0, side));
            }
        }
    }

    private static void lengthAbove96(Trial t) {
        for (int claimed : new int[] {97, 98, 127, 255, 256, 352, 0x7fff, 0x8000, 0xff60, 0xffff}) {
            for (int length : new int[] {0, 96}) {
                lengthIsNot(t, length, claimed);
            }
        }
    }

    private static void otherLength(Trial t) {
        for (int length : new int[] {0, 1, 50, 95, 96}) {
            for (int claimed : new int[] {0, length - 1, length + 1, 96, length + 256}) {
                if (claimed != length) {
                    lengthIsNot(t, length, claimed);
                }
            }
        }
    }

    /** The tag is right for what the record says, so that its length alone is wrong. */
    private static void lengthIsNot(Trial t, int length, int claimed) {
        byte[] text = Wires.text(length, 8);
        byte[] right = Wires.record(ZERO_KEY, 0, 0, 0, text);
        byte[] untagged = Arrays.copyOf(right, 15 + length);
        ByteBuffer.wrap(untagged).putShort(13, (short) claimed);
        Wire wire = t.opened();
        Wires.sendText(wire, 0, text);
        Wires.overwrite(wire, 0, withRightTag(0, untagged));
        t.due(2, wire.deliver(0, 1));
        Wires.overwrite(wire, 0, right);
        t.due(0, wire.deliver(0, 1));
    }

    private static void otherEpoch(Trial t) {
        Wire wire = t.opened();
        wire.rekey(0);
        wire.send(0);
        Spec.Keys now = Spec.Keys.at(0, ZERO_KEY, 1);
        for (int epoch : new int[] {0, 2, 257, 1 << 16 | 1, 1 << 24 | 1, 1 << 31 | 1, -1}) {
            Wires.overwrite(wire, 0, Spec.record(now, 0, epoch, 0, NO_TEXT));
            t.due(3, wire.deliver(0, 1));
        }
        Wires.overwrite(wire, 0, Spec.record(now, 0, 1, 0, NO_TEXT));
        t.due(0, wire.deliver(0, 1));
    }

    private static void epochBefore(Trial t) {
        Wire wire = t.opened();
        wire.send(0);
        wire.send(1);
        wire.rekey(0);
        t.due(3, wire.deliver(0, 1));
        // It is the direction's own epoch that counts, and its keys went on with it.
        t.due(0, wire.deliver(1, 0));
        wire.corrupt(0, 4, 1);
        t.due(4, wire.deliver(0, 1));
    }

    private static void anyByteChanged(Trial t) {
        byte[] text = Wires.text(4, 99);
        byte[] right = Wires.record(ZERO_KEY, 0, 0, 0, text);
        for (int bit : new int[] {1, 128}) {
            Wire wire = t.opened();
            Wires.sendText(wire, 0, text);
            for (int i = 5; i < right.length; i++) {
                boolean isLength = i == 13 || i == 14;
                wire.corrupt(0, i, right[i] & 255 ^ bit);
                t.due(isLength ? 2 : 4, wire.deliver(0, 1));
                wire.corrupt(0, i, right[i] & 255);
            }
            t.inboxIs(NO_TEXT, wire);
            t.due(0, wire.deliver(0, 1));
            t.inboxIs(text, wire);
        }
    }

    private static void tagOfAnotherKey(Trial t) {
        Wire wire = t.opened();
        wire.send(0);
        Wires.overwrite(wire, 0, withRightTag(1, head(0, 0, 0, 0)));
        t.due(4, wire.deliver(0, 1));
        byte[] sealKey = Spec.Keys.opened(0, ZERO_KEY).seal();
        Spec.Keys sealForTag = new Spec.Keys(sealKey, sealKey);
        Wires.overwrite(wire, 0, Spec.tagged(sealForTag, head(0, 0, 0, 0)));
        t.due(4, wire.deliver(0, 1));
        Wires.overwrite(wire, 0, withRightTag(0, head(0, 0, 0, 0)));
        t.due(0, wire.deliver(0, 1));
    }

    private static void belowTheWindow(Trial t) {
        for (long greatest : new long[] {65, 66, 100, 1L << 32, Long.MAX_VALUE}) {
            Wire wire = t.opened();
            Forger forger = new Forger(wire, 0, ZERO_KEY);
            t.due(0, forger.deliver(greatest));
            t.due(0, forger.deliver(greatest - 62));
            t.due(0, forger.deliver(greatest - 63));
            t.due(5, forger.deliver(greatest - 64));
            t.due(5, forger.deliver(greatest - 65));
            t.due(5, forger.deliver(0));
        }
        numbersAnswer(t, new long[][] {{63, 0}, {0, 0}, {64, 0}, {0, 5}, {1, 0}}, 3);
    }

    private static void belowTheWindowAsSent(Trial t) {
        for (int greatest = 62; greatest <= 66; greatest++) {
            Wire wire = t.opened();
            wire.send(0);
            for (int number = 1; number < greatest; number++) {
                wire.send(0);
                wire.drop(1);
            }
            wire.send(0);
            t.due(0, wire.deliver(1, 1));
            t.due(greatest < 64 ? 0 : 5, wire.deliver(0, 1));
            t.due(greatest < 64 ? 2 : 1, wire.count(4));
        }
    }

    private static void wasSeen(Trial t) {
        Wire wire = t.opened();
        Forger forger = new Forger(wire, 0, ZERO_KEY);
        for (long number : new long[] {200, 199, 138, 137, 168}) {
            t.due(0, forger.deliver(number));
        }
        for (long number : new long[] {200, 199, 138, 137, 168}) {
            t.due(6, forger.deliver(number));
        }
        for (long number : new long[] {198, 139, 167, 169}) {
            t.due(0, forger.deliver(number));
        }
        t.due(6, forger.deliver(169));
        t.due(9, wire.count(4));
    }

    private static void wasSeenInAnyOrder(Trial t) {
        Wire wire = t.opened();
        for (int slot = 0; slot < 8; slot++) {
            wire.send(1);
        }
        for (int slot : new int[] {3, 0, 7, 5, 1, 2, 6, 4}) {
            t.due(0, wire.deliver(slot, 0));
            t.due(6, wire.deliver(slot, 0));
        }
        for (int slot = 0; slot < 8; slot++) {
            t.due(6, wire.deliver(slot, 0));
        }
        t.due(8, wire.count(5));
    }

    private static void aboutTheHalf(Trial t) {
        numbersAnswer(t, new long[][] {
            {Long.MAX_VALUE, 0}, {Long.MIN_VALUE, 0}, {Long.MAX_VALUE, 6}, {Long.MIN_VALUE, 6},
            {Long.MIN_VALUE + 1, 0}, {Long.MAX_VALUE - 61, 0}, {Long.MAX_VALUE - 62, 5}, {0, 5}
        }, 4);
        numbersAnswer(t, new long[][] {{Long.MIN_VALUE, 0}, {Long.MAX_VALUE, 0}, {1, 5}}, 2);
    }

    private static void aboutTheEnds(Trial t) {
        numbersAnswer(t, new long[][] {
            {0, 0}, {-1, 0}, {0, 5}, {1, 5}, {62, 5}, {63, 5}, {-2, 0}, {-64, 0}, {-65, 5},
            {-1, 6}, {Long.MIN_VALUE, 5}, {Long.MAX_VALUE, 5}
        }, 3);
        numbersAnswer(t, new long[][] {{-1, 0}, {0, 5}, {-1, 6}}, 1);
    }

    private static void noWayRound(Trial t) {
        numbersAnswer(t, new long[][] {{5, 0}, {0, 0}, {-1, 0}, {5, 5}, {-2, 0}}, 2);
        numbersAnswer(t, new long[][] {{0, 0}, {-58, 0}, {0, 5}}, 1);
    }

    private static void numbersAnswer(Trial t, long[][] numbersAndAnswers, int seen) {
        Wire wire = t.opened();
        Forger forger = new Forger(wire, 0, ZERO_KEY);
        for (long[] row : numbersAndAnswers) {
            t.due(row[1], forger.deliver(row[0]));
        }
        t.due(seen, wire.count(4));
    }

    private static byte[] head(int direction, int epoch, long number, int length) {
        return ByteBuffer.allocate(15).put((byte) direction).putInt(epoch).putLong(number)
                .putShort((short) length).array();
    }

    /** With the tag that the direction's key gives these bytes just behind open. */
    private static byte[] withRightTag(int direction, byte[] untagged) {
        return Spec.tagged(Spec.Keys.opened(direction, ZERO_KEY), untagged);
    }
}
