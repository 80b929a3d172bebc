import java.util.List;

/** The sentences of the promises 5 and 6: put and send. */
final class SendingSentences {
    private SendingSentences() {
    }

    static List<Sentence> all() {
        return List.of(
                Sentence.promise(5, "A byte more in the outbox:", "0 and 255",
                        SendingSentences::putSmallestAndGreatest),
                Sentence.promise(5, "A byte more in the outbox:", "on a closed one",
                        SendingSentences::putClosed),
                Sentence.promise(5, "false if it is not 0 .. 255,", "-1, 256 and far off",
                        SendingSentences::putNoByte),
                Sentence.promise(5, "or there are 96.", "the 96th and the 97th",
                        SendingSentences::putFull),
                Sentence.promise(5, "or there are 96.", "until it is sent",
                        SendingSentences::putUntilSent),
                Sentence.promise(6, "The outbox goes as a record from a side into the first empty"
                        + " slot", "an empty outbox", SendingSentences::sendNothing),
                Sentence.promise(6, "The outbox goes as a record from a side into the first empty"
                        + " slot", "a full outbox from either side", SendingSentences::sendMost),
                Sentence.promise(6, "The outbox goes as a record from a side into the first empty"
                        + " slot", "gaps, and the last slot", SendingSentences::sendIntoGaps),
                Sentence.promise(6, "(then it is empty,", "the outbox behind it",
                        SendingSentences::outboxIsEmptyThen),
                Sentence.promise(6, "and the next number one more):", "the side's own alone",
                        SendingSentences::numberOneMore),
                Sentence.promise(6, "the slot;", "0 to 7", SendingSentences::sendAnswersSlot),
                Sentence.promise(6, "-1 no such side,", "open", SendingSentences::sendNoSide),
                Sentence.promise(6, "-1 no such side,", "and no empty slot either",
                        SendingSentences::sendNoSideWhileFull),
                Sentence.promise(6, "or closed;", "either side", SendingSentences::sendClosed),
                Sentence.promise(6, "-2 no empty slot (nothing changes).", "either side",
                        SendingSentences::sendNoSlot),
                Sentence.promise(6, "-2 no empty slot (nothing changes).", "one dropped then",
                        SendingSentences::sendAfterNoSlot));
    }

    private static void putSmallestAndGreatest(Trial t) {
        Wire wire = t.opened();
        t.due(true, wire.put(0));
        t.due(1, wire.count(1));
        t.due(true, wire.put(255));
        t.due(2, wire.count(1));
        t.due(true, wire.put(0));
        t.due(3, wire.count(1));
        wire.send(0);
        t.slotIs(Wires.record(Wires.ZERO_KEY, 0, 0, 0, new byte[] {0, (byte) 255, 0}), wire, 0);
        t.due(0, wire.deliver(0, 1));
        t.inboxIs(new byte[] {0, (byte) 255, 0}, wire);
    }

    private static void putClosed(Trial t) {
        Wire wire = t.fresh();
        t.due(true, wire.put(77));
        t.due(1, wire.count(1));
        wire.open();
        t.due(1, wire.count(1));
        wire.send(0);
        t.slotIs(Wires.record(Wires.ZERO_KEY, 0, 0, 0, new byte[] {77}), wire, 0);
    }

    private static void putNoByte(Trial t) {
        Wire wire = t.after(Wires::busy);
        for (int b : Wires.NO_BYTES) {
            t.due(false, wire.put(b));
            t.due(2, wire.count(1));
        }
        t.changesNothing(Wires::busy, SendingSentences::putNoBytes);
        t.changesNothing(Wires::closed, SendingSentences::putNoBytes);
        t.changesNothing(other -> { }, SendingSentences::putNoBytes);
    }

    private static void putNoBytes(Wire wire) {
        for (int b : Wires.NO_BYTES) {
            wire.put(b);
        }
    }

    private static void putFull(Trial t) {
        byte[] text = Wires.text(96, 0);
        Wire wire = t.opened();
        for (int i = 0; i < 96; i++) {
            t.due(true, wire.put(text[i] & 255));
            t.due(i + 1, wire.count(1));
        }
        for (int b : new int[] {0, 1, 255, -1, 256}) {
            t.due(false, wire.put(b));
        }
        t.due(96, wire.count(1));
        wire.send(0);
        t.slotIs(Wires.record(Wires.ZERO_KEY, 0, 0, 0, text), wire, 0);
        t.changesNothing(SendingSentences::busyWithFullOutbox, other -> {
            other.put(0);
            other.put(255);
        });
    }

    private static void busyWithFullOutbox(Wire wire) {
        Wires.busy(wire);
        Wires.putText(wire, Wires.text(94, 33));
    }

    private static void putUntilSent(Trial t) {
        Wire wire = t.opened();
        Wires.putText(wire, Wires.text(96, 0));
        t.due(false, wire.put(1));
        t.due(-1, wire.send(2));
        t.due(false, wire.put(1));
        t.due(0, wire.send(0));
        for (int i = 0; i < 96; i++) {
            t.due(true, wire.put(i));
        }
        t.due(false, wire.put(1));
        t.due(96, wire.count(1));
    }

    private static void sendNothing(Trial t) {
        Wire wire = t.opened();
        t.due(0, wire.count(1));
        t.due(0, wire.send(1));
        t.slotIs(Wires.record(Wires.ZERO_KEY, 1, 0, 0, Wires.NO_TEXT), wire, 0);
        t.due(1, wire.count(0));
    }

    private static void sendMost(Trial t) {
        for (int side = 0; side < 2; side++) {
            byte[] text = Wires.text(96, 100 + side);
            Wire wire = t.openedWith(Wires.SCENE_KEY);
            t.due(0, Wires.sendText(wire, side, text));
            t.slotIs(Wires.record(Wires.SCENE_KEY, side, 0, 0, text), wire, 0);
        }
    }

    private static void sendIntoGaps(Trial t) {
        Wire wire = t.opened();
        for (int slot = 0; slot < 8; slot++) {
            wire.send(1);
        }
        for (int slot : new int[] {7, 5, 2, 0}) {
            wire.drop(slot);
        }
        for (int slot : new int[] {0, 2, 5, 7}) {
            wire.put(slot);
            t.due(slot, wire.send(0));
            t.due(0, wire.deliver(slot, 1));
            t.inboxIs(new byte[] {(byte) slot}, wire);
        }
        t.due(-2, wire.send(0));
        t.slotIs(Wires.record(Wires.ZERO_KEY, 1, 0, 6, Wires.NO_TEXT), wire, 6);
    }

    private static void outboxIsEmptyThen(Trial t) {
        Wire wire = t.opened();
        t.due(0, Wires.sendText(wire, 0, Wires.text(96, 8)));
        t.due(0, wire.count(1));
        t.due(1, wire.send(0));
        t.slotIs(Wires.record(Wires.ZERO_KEY, 0, 0, 1, Wires.NO_TEXT), wire, 1);
        wire.put(6);
        t.due(1, wire.count(1));
        t.due(2, wire.send(1));
        t.slotIs(Wires.record(Wires.ZERO_KEY, 1, 0, 0, new byte[] {6}), wire, 2);
    }

    private static void numberOneMore(Trial t) {
        Wire wire = t.opened();
        int[] next = new int[2];
        for (int side : new int[] {0, 0, 1, 0, 1, 1, 0}) {
            t.due(0, wire.send(side));
            t.slotIs(Wires.record(Wires.ZERO_KEY, side, 0, next[side], Wires.NO_TEXT), wire, 0);
            next[side]++;
            wire.drop(0);
        }
    }

    private static void sendAnswersSlot(Trial t) {
        Wire wire = t.opened();
        for (int slot = 0; slot < 8; slot++) {
            wire.put(slot);
            t.due(slot, wire.send(slot % 2));
            t.slotIs(Wires.record(Wires.ZERO_KEY, slot % 2, 0, slot / 2, new byte[] {(byte) slot}),
                    wire, slot);
        }
    }

    private static void sendNoSide(Trial t) {
        Wire wire = t.after(Wires::busy);
        for (int side : Wires.NO_SIDES) {
            t.due(-1, wire.send(side));
        }
        t.countsAre(wire, 6, 2, 0, 1, 2, 1);
        t.changesNothing(Wires::busy, SendingSentences::sendFromNoSides);
    }

    private static void sendNoSideWhileFull(Trial t) {
        Wire wire = t.after(Wires::full);
        for (int side : Wires.NO_SIDES) {
            t.due(-1, wire.send(side));
        }
        t.changesNothing(Wires::full, SendingSentences::sendFromNoSides);
    }

    private static void sendFromNoSides(Wire wire) {
        for (int side : Wires.NO_SIDES) {
            wire.send(side);
        }
    }

    private static void sendClosed(Trial t) {
        Wire wire = t.after(Wires::closed);
        for (int side = -1; side <= 2; side++) {
            t.due(-1, wire.send(side));
        }
        t.countsAre(wire, 0, 2, -1, -1, 0, 0);
        t.changesNothing(Wires::closed, other -> {
            other.send(0);
            other.send(1);
            other.send(2);
        });
    }

    private static void sendNoSlot(Trial t) {
        Wire wire = t.after(Wires::full);
        for (int side = 0; side < 2; side++) {
            t.due(-2, wire.send(side));
            t.due(-2, wire.send(side));
        }
        t.countsAre(wire, 8, 2, 0, 1, 2, 1);
        t.changesNothing(Wires::full, other -> {
            other.send(0);
            other.send(1);
        });
    }

    private static void sendAfterNoSlot(Trial t) {
        for (int side = 0; side < 2; side++) {
            Wire wire = t.after(Wires::full);
            t.due(-2, wire.send(side));
            wire.drop(7);
            t.due(7, wire.send(side));
            t.slotIs(Wires.record(Wires.SCENE_KEY, side, side, 6 - 3 * side,
                    new byte[] {9, (byte) 200}), wire, 7);
            t.due(0, wire.count(1));
        }
    }
}
