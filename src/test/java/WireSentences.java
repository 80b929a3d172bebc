import java.util.List;
import java.util.function.Consumer;

/** The sentences of the promises 8 to 14: inbox, slots, rekey and count; and of the last call. */
final class WireSentences {
    private static final byte[] ZERO_KEY = Wires.ZERO_KEY;
    private static final byte[] NO_TEXT = Wires.NO_TEXT;

    private WireSentences() {
    }

    static List<Sentence> all() {
        return List.of(
                Sentence.promise(8, "Byte i of the inbox;", "the first, the last, 0 and 255",
                        WireSentences::gotBytes),
                Sentence.promise(8, "-1 if there is none.", "below 0 and behind the last",
                        WireSentences::gotNone),
                Sentence.promise(8, "-1 if there is none.", "an empty inbox",
                        WireSentences::gotOfEmpty),
                Sentence.promise(8, "-1 if there is none.", "behind a shorter text",
                        WireSentences::gotBehindShorter),
                Sentence.promise(9, "How many bytes the inbox has.", "0, 1, 96, and 0 again",
                        WireSentences::gotLen),
                Sentence.promise(10, "Byte i of a slot becomes b:", "the first and the last byte",
                        WireSentences::corruptFirstAndLast),
                Sentence.promise(10, "Byte i of a slot becomes b:", "0, 255, and what it was",
                        WireSentences::corruptToAny),
                Sentence.promise(10, "false if there is none,", "no such slot",
                        WireSentences::corruptNoSlot),
                Sentence.promise(10, "false if there is none,", "an empty slot",
                        WireSentences::corruptEmptySlot),
                Sentence.promise(10, "false if there is none,", "no such byte",
                        WireSentences::corruptNoByte),
                Sentence.promise(10, "or b is not 0 .. 255.", "-1, 256 and far off",
                        WireSentences::corruptToNoByte),
                Sentence.promise(11, "A slot is empty then:", "that one alone",
                        WireSentences::dropEmpties),
                Sentence.promise(11, "A slot is empty then:", "and takes a record again",
                        WireSentences::dropMakesRoom),
                Sentence.promise(11, "false if it was.", "never used, and dropped",
                        WireSentences::dropEmpty),
                Sentence.promise(11, "false if it was.", "no such slot", WireSentences::dropNoSlot),
                Sentence.promise(12, "The direction from a side goes on:", "that one alone",
                        WireSentences::rekeyOne),
                Sentence.promise(12, "The direction from a side goes on:", "all else stays",
                        WireSentences::rekeyLeavesTheRest),
                Sentence.promise(12, "its epoch;", "1 and up", WireSentences::rekeyAnswersEpoch),
                Sentence.promise(12, "-1 no such side,", "below 0, 2 and far off",
                        WireSentences::rekeyNoSide),
                Sentence.promise(12, "or closed.", "new, and behind init",
                        WireSentences::rekeyClosed),
                Sentence.promise(13, "Byte i of a slot;", "first and last of short and long",
                        WireSentences::wireAtBytes),
                Sentence.promise(13, "-1 if there is none.", "no such byte",
                        WireSentences::wireAtNoByte),
                Sentence.promise(13, "-1 if there is none.", "no such slot, an empty one",
                        WireSentences::wireAtNoSlot),
                Sentence.promise(14, "How many: what = 0 slots with records,", "0 to 8",
                        WireSentences::countSlots),
                Sentence.promise(14, "1 bytes in the outbox,", "0 to 96",
                        WireSentences::countOutbox),
                Sentence.promise(14, "2 and 3 the epochs of both directions (-1 closed),",
                        "closed, open, gone on", WireSentences::countEpochs),
                Sentence.promise(14, "4 and 5 how many of the window's numbers were seen;",
                        "0, 1, 64, and never 65", WireSentences::countSeen),
                Sentence.promise(14, "4 and 5 how many of the window's numbers were seen;",
                        "of those that left it none", WireSentences::countSeenInWindow),
                Sentence.promise(14, "-1 for another what.", "-1, 6 and far off",
                        WireSentences::countNothing),
                new Sentence("What it is",
                        "An object is used for at most 512 calls after it has been made;",
                        "the 512th answers too", WireSentences::lastCalls));
    }

    private static void gotBytes(Trial t) {
        byte[] text = Wires.text(96, 3);
        text[0] = (byte) 255;
        text[1] = 0;
        text[94] = 0;
        text[95] = (byte) 255;
        Wire wire = t.opened();
        Wires.sendText(wire, 1, text);
        t.due(-1, wire.got(0));
        wire.deliver(0, 0);
        t.due(255, wire.got(0));
        t.due(0, wire.got(1));
        t.due(0, wire.got(94));
        t.due(255, wire.got(95));
        t.inboxIs(text, wire);
    }

    private static void gotNone(Trial t) {
        for (int length : new int[] {1, 95, 96}) {
            Wire wire = t.opened();
            Wires.sendText(wire, 0, Wires.text(length, 1));
            wire.deliver(0, 1);
            for (int i : new int[] {-1, length, length + 1, 96, 97, 126, 127, 128,
                    Integer.MIN_VALUE, Integer.MAX_VALUE}) {
                t.due(-1, wire.got(i));
            }
            t.due(true, wire.got(length - 1) >= 0);
        }
    }

    private static void gotOfEmpty(Trial t) {
        Wire wire = t.opened();
        t.due(-1, wire.got(0));
        t.due(-1, wire.got(-1));
        wire.send(0);
        t.due(0, wire.deliver(0, 1));
        t.due(-1, wire.got(0));
        t.due(-1, wire.got(-1));
    }

    private static void gotBehindShorter(Trial t) {
        Wire wire = t.opened();
        Wires.sendText(wire, 0, Wires.text(96, 1));
        Wires.sendText(wire, 0, Wires.text(2, 1));
        wire.deliver(0, 1);
        wire.deliver(1, 1);
        t.due(1 + 37, wire.got(1));
        for (int i = 2; i < 97; i++) {
            t.due(-1, wire.got(i));
        }
    }

    private static void gotLen(Trial t) {
        Wire wire = t.fresh();
        t.due(0, wire.gotLen());
        wire.open();
        int[] lengths = {1, 96, 0, 2};
        for (int slot = 0; slot < 4; slot++) {
            Wires.sendText(wire, slot % 2, Wires.text(lengths[slot], 0));
        }
        t.due(0, wire.gotLen());
        for (int slot = 0; slot < 4; slot++) {
            t.due(0, wire.deliver(slot, 1 - slot % 2));
            t.due(lengths[slot], wire.gotLen());
        }
        t.due(6, wire.deliver(0, 1));
        t.due(2, wire.gotLen());
        wire.init();
        t.due(0, wire.gotLen());
    }

    private static void corruptFirstAndLast(Trial t) {
        for (int length : new int[] {0, 96}) {
            byte[] want = Wires.record(ZERO_KEY, 0, 0, 0, Wires.text(length, 4));
            int last = want.length - 1;
            Wire wire = t.opened();
            Wires.sendText(wire, 0, Wires.text(length, 4));
            wire.send(1);
            want[0] ^= 1;
            want[last] ^= 1;
            t.due(true, wire.corrupt(0, 0, want[0] & 255));
            t.due(true, wire.corrupt(0, last, want[last] & 255));
            t.slotIs(want, wire, 0);
            t.slotIs(Wires.record(ZERO_KEY, 1, 0, 0, NO_TEXT), wire, 1);
        }
    }

    private static void corruptToAny(Trial t) {
        Wire wire = t.opened();
        wire.send(0);
        int was = wire.wireAt(0, 20);
        for (int b : new int[] {0, 255, 0, 128, 127, was, was}) {
            t.due(true, wire.corrupt(0, 20, b));
            t.due(b, wire.wireAt(0, 20));
        }
        t.due(0, wire.deliver(0, 1));
    }

    private static void corruptNoSlot(Trial t) {
        Wire wire = t.after(Wires::full);
        for (int slot : Wires.NO_SLOTS) {
            t.due(false, wire.corrupt(slot, 0, 1));
        }
        t.changesNothing(Wires::full, other -> {
            for (int slot : Wires.NO_SLOTS) {
                other.corrupt(slot, 0, 1);
                other.corrupt(slot, 20, 1);
            }
        });
    }

    private static void corruptEmptySlot(Trial t) {
        Wire wire = t.after(Wires::busy);
        for (int slot : new int[] {2, 7}) {
            t.due(false, wire.corrupt(slot, 0, 1));
            t.due(false, wire.corrupt(slot, 30, 1));
        }
        t.changesNothing(Wires::busy, other -> {
            other.corrupt(2, 0, 1);
            other.corrupt(7, 30, 1);
        });
        t.due(false, t.fresh().corrupt(0, 0, 1));
        t.changesNothing(Wires::closed, other -> other.corrupt(0, 0, 1));
    }

    private static void corruptNoByte(Trial t) {
        // Slot 1 had a longer record before, whose bytes are no longer there.
        Consumer<Wire> before = wire -> {
            Wires.busy(wire);
            wire.drop(1);
            wire.send(0);
        };
        int[] none = {-1, 33, 34, 126, 127, 128, Integer.MIN_VALUE, Integer.MAX_VALUE};
        Wire wire = t.after(before);
        for (int i : none) {
            t.due(false, wire.corrupt(1, i, 1));
        }
        t.due(-1, wire.wireAt(1, 33));
        t.changesNothing(before, other -> {
            for (int i : none) {
                other.corrupt(1, i, 1);
            }
        });
    }

    private static void corruptToNoByte(Trial t) {
        Wire wire = t.after(Wires::busy);
        for (int b : Wires.NO_BYTES) {
            t.due(false, wire.corrupt(0, 0, b));
            t.due(false, wire.corrupt(1, 34, b));
        }
        t.changesNothing(Wires::busy, other -> {
            for (int b : Wires.NO_BYTES) {
                other.corrupt(0, 0, b);
                other.corrupt(1, 34, b);
                other.corrupt(6, 20, b);
            }
        });
    }

    private static void dropEmpties(Trial t) {
        Wire wire = t.after(Wires::full);
        t.due(true, wire.drop(0));
        t.slotIsEmpty(wire, 0);
        t.due(7, wire.count(0));
        t.due(true, wire.drop(7));
        t.slotIsEmpty(wire, 7);
        t.countsAre(wire, 6, 2, 0, 1, 2, 1);
        t.slotIs(Wires.record(Wires.SCENE_KEY, 0, 0, 1, Wires.text(4, 1)), wire, 1);
        t.slotIs(Wires.record(Wires.SCENE_KEY, 1, 1, 1, Wires.text(4, 60)), wire, 6);
        t.inboxIs(Wires.text(2, 50), wire);
    }

    private static void dropMakesRoom(Trial t) {
        Wire wire = t.after(Wires::full);
        t.due(-2, wire.send(0));
        t.due(true, wire.drop(4));
        t.due(4, wire.send(0));
        t.slotIs(Wires.record(Wires.SCENE_KEY, 0, 0, 6, new byte[] {9, (byte) 200}), wire, 4);
        t.due(0, wire.deliver(4, 1));
        t.due(-2, wire.send(0));
    }

    private static void dropEmpty(Trial t) {
        Wire wire = t.after(Wires::busy);
        t.due(false, wire.drop(2));
        t.due(false, wire.drop(7));
        t.due(true, wire.drop(6));
        t.due(false, wire.drop(6));
        t.due(false, wire.drop(6));
        t.due(5, wire.count(0));
        t.due(false, t.fresh().drop(0));
        t.changesNothing(Wires::busy, other -> {
            other.drop(2);
            other.drop(7);
        });
        t.changesNothing(Wires::closed, other -> other.drop(0));
    }

    private static void dropNoSlot(Trial t) {
        Wire wire = t.after(Wires::full);
        for (int slot : Wires.NO_SLOTS) {
            t.due(false, wire.drop(slot));
        }
        t.due(8, wire.count(0));
        t.changesNothing(Wires::full, other -> {
            for (int slot : Wires.NO_SLOTS) {
                other.drop(slot);
            }
        });
    }

    private static void rekeyOne(Trial t) {
        for (int side = 0; side < 2; side++) {
            Wire wire = t.opened();
            wire.send(0);
            wire.send(1);
            wire.deliver(0, 1);
            wire.deliver(1, 0);
            wire.rekey(side);
            t.due(3, wire.deliver(side, 1 - side));
            t.due(6, wire.deliver(1 - side, side));
            t.due(0, wire.count(4 + side));
            t.due(1, wire.count(5 - side));
            t.due(2, wire.send(side));
            t.slotIs(Wires.record(ZERO_KEY, side, 1, 0, NO_TEXT), wire, 2);
            t.due(3, wire.send(1 - side));
            t.slotIs(Wires.record(ZERO_KEY, 1 - side, 0, 1, NO_TEXT), wire, 3);
            t.due(0, wire.deliver(2, 1 - side));
            t.due(0, wire.deliver(3, side));
        }
    }

    private static void rekeyLeavesTheRest(Trial t) {
        Wire wire = t.after(Wires::busy);
        t.due(1, wire.rekey(0));
        t.due(2, wire.rekey(1));
        t.countsAre(wire, 6, 2, 1, 2, 0, 0);
        t.inboxIs(Wires.text(2, 50), wire);
        t.slotIs(Wires.record(Wires.SCENE_KEY, 0, 0, 0, Wires.text(3, 0)), wire, 0);
        t.slotIs(Wires.record(Wires.SCENE_KEY, 1, 1, 1, Wires.text(4, 60)), wire, 6);
        t.due(2, wire.send(1));
        t.slotIs(Wires.record(Wires.SCENE_KEY, 1, 2, 0, new byte[] {9, (byte) 200}), wire, 2);
    }

    private static void rekeyAnswersEpoch(Trial t) {
        Wire wire = t.opened();
        for (int epoch = 1; epoch <= 5; epoch++) {
            t.due(epoch, wire.rekey(0));
            t.due(epoch, wire.count(2));
        }
        t.due(1, wire.rekey(1));
        t.due(6, wire.rekey(0));
        wire.init();
        wire.open();
        t.due(1, wire.rekey(0));
    }

    private static void rekeyNoSide(Trial t) {
        Wire wire = t.after(Wires::busy);
        for (int side : Wires.NO_SIDES) {
            t.due(-1, wire.rekey(side));
        }
        t.countsAre(wire, 6, 2, 0, 1, 2, 1);
        t.changesNothing(Wires::busy, other -> {
            for (int side : Wires.NO_SIDES) {
                other.rekey(side);
            }
        });
    }

    private static void rekeyClosed(Trial t) {
        Wire wire = t.after(Wires::closed);
        for (int side = -1; side <= 2; side++) {
            t.due(-1, wire.rekey(side));
        }
        t.changesNothing(Wires::closed, other -> {
            other.rekey(0);
            other.rekey(1);
        });
        Wire once = t.after(Wires::busy);
        once.init();
        t.due(-1, once.rekey(1));
        once.open();
        t.due(0, once.count(3));
    }

    private static void wireAtBytes(Trial t) {
        Wire wire = t.opened();
        byte[] longest = Wires.record(ZERO_KEY, 1, 0, 0, Wires.text(96, 9));
        Wires.sendText(wire, 1, Wires.text(96, 9));
        for (int slot = 1; slot < 8; slot++) {
            wire.send(1);
        }
        t.due(1, wire.wireAt(0, 0));
        t.due(longest[126] & 255, wire.wireAt(0, 126));
        t.slotIs(longest, wire, 0);
        t.slotIs(Wires.record(ZERO_KEY, 1, 0, 7, NO_TEXT), wire, 7);
    }

    private static void wireAtNoByte(Trial t) {
        Wire wire = t.opened();
        Wires.sendText(wire, 0, Wires.text(96, 1));
        wire.send(0);
        for (int i : new int[] {-1, 127, 128, Integer.MIN_VALUE, Integer.MAX_VALUE}) {
            t.due(-1, wire.wireAt(0, i));
            t.due(-1, wire.wireAt(1, i));
        }
        t.due(-1, wire.wireAt(1, 31));
        // A shorter record in its place leaves nothing of the longer one.
        wire.drop(0);
        wire.send(1);
        for (int i = 31; i < 128; i++) {
            t.due(-1, wire.wireAt(0, i));
        }
    }

    private static void wireAtNoSlot(Trial t) {
        Wire wire = t.after(Wires::full);
        for (int slot : Wires.NO_SLOTS) {
            t.due(-1, wire.wireAt(slot, 0));
            t.due(-1, wire.wireAt(slot, 30));
        }
        for (int slot = 0; slot < 8; slot++) {
            wire.drop(slot);
            t.due(-1, wire.wireAt(slot, 0));
            t.due(-1, wire.wireAt(slot, 30));
        }
        t.due(-1, t.fresh().wireAt(0, 0));
    }

    private static void countSlots(Trial t) {
        Wire wire = t.opened();
        for (int slot = 0; slot < 8; slot++) {
            t.due(slot, wire.count(0));
            wire.send(slot % 2);
        }
        t.due(8, wire.count(0));
        wire.send(0);
        t.due(8, wire.count(0));
        wire.corrupt(3, 0, 9);
        wire.deliver(2, 1);
        t.due(8, wire.count(0));
        for (int slot = 7; slot >= 0; slot--) {
            wire.drop(slot);
            wire.drop(slot);
            t.due(slot, wire.count(0));
        }
    }

    private static void countOutbox(Trial t) {
        Wire wire = t.opened();
        for (int i = 0; i < 96; i++) {
            t.due(i, wire.count(1));
            wire.put(i);
        }
        t.due(96, wire.count(1));
        wire.put(1);
        t.due(96, wire.count(1));
        wire.send(0);
        t.due(0, wire.count(1));
    }

    private static void countEpochs(Trial t) {
        Wire wire = t.fresh();
        t.due(-1, wire.count(2));
        t.due(-1, wire.count(3));
        wire.open();
        t.due(0, wire.count(2));
        t.due(0, wire.count(3));
        wire.rekey(1);
        wire.rekey(1);
        wire.rekey(0);
        t.due(1, wire.count(2));
        t.due(2, wire.count(3));
        wire.init();
        t.due(-1, wire.count(2));
        t.due(-1, wire.count(3));
    }

    private static void countSeen(Trial t) {
        for (int side = 0; side < 2; side++) {
            Wire wire = t.fresh();
            t.due(0, wire.count(4 + side));
            wire.open();
            for (int number = 0; number < 100; number++) {
                t.due(Math.min(64, number), wire.count(4 + side));
                wire.send(side);
                t.due(0, wire.deliver(0, 1 - side));
                wire.drop(0);
            }
            t.due(64, wire.count(4 + side));
            t.due(0, wire.count(5 - side));
            wire.rekey(side);
            t.due(0, wire.count(4 + side));
        }
    }

    private static void countSeenInWindow(Trial t) {
        Wire wire = t.opened();
        Forger forger = new Forger(wire, 1, ZERO_KEY);
        long[][] numbersAndCounts = {
            {10, 1}, {3, 2}, {66, 3}, {67, 3}, {5, 4}, {5, 4}, {73, 4}, {74, 4}, {11, 5}, {200, 1}
        };
        for (long[] row : numbersAndCounts) {
            forger.deliver(row[0]);
            t.due(row[1], wire.count(5));
        }
        t.due(0, wire.count(4));
    }

    private static void countNothing(Trial t) {
        Wire wire = t.after(Wires::busy);
        for (int what : new int[] {-1, -2, 6, 7, 8, Integer.MIN_VALUE, Integer.MAX_VALUE}) {
            t.due(-1, wire.count(what));
            t.due(-1, t.fresh().count(what));
        }
    }

    /** 512 calls in all: open, 478 times rekey, send, and a look at 31 bytes and behind them. */
    private static void lastCalls(Trial t) {
        Wire wire = t.opened();
        for (int epoch = 1; epoch <= 478; epoch++) {
            t.due(epoch, wire.rekey(0));
        }
        t.due(0, wire.send(0));
        t.slotIs(Wires.record(ZERO_KEY, 0, 478, 0, NO_TEXT), wire, 0);
    }
}
