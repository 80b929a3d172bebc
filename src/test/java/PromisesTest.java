/** Promises 1 to 6 and 8 to 14, one method for each; DeliverTest has promise 7. */
final class PromisesTest {
    private static final Due due = new Due("PromisesTest");
    private static final byte[] ZERO_KEY = new byte[32];

    public static void main(String[] args) {
        newObject();
        init();
        setPsk();
        setPskRefused();
        open();
        openAgain();
        put();
        sendRecords();
        sendNumbers();
        sendRefused();
        sendFirstEmptySlot();
        gotAndGotLen();
        corrupt();
        drop();
        rekey();
        rekeyOften();
        rekeyRefused();
        wireAt();
        count();
        due.end();
    }

    private static void isAsNew(String when, RecordWire wire) {
        Wires.countsAre(due, when, wire, 0, 0, -1, -1, 0, 0);
        Wires.inboxIs(due, when, wire, new byte[0]);
        for (int slot = 0; slot < 8; slot++) {
            due.is(when + ": wireAt", wire.wireAt(slot, 0), -1);
            due.is(when + ": drop", wire.drop(slot), false);
            due.is(when + ": deliver", wire.deliver(slot, 1), 1);
        }
        due.is(when + ": send(0)", wire.send(0), -1);
        due.is(when + ": rekey(0)", wire.rekey(0), -1);
        wire.open();
        for (int side = 0; side < 2; side++) {
            due.is(when + ": send", wire.send(side), side);
            Wires.slotIs(due, when + ", opened", wire, side,
                    Spec.record(Spec.Keys.opened(side, ZERO_KEY), side, 0, 0, new byte[0]));
        }
    }

    private static void newObject() {
        isAsNew("promise 1", new RecordWire());
    }

    private static void init() {
        RecordWire wire = new RecordWire();
        wire.setPsk(0, 9);
        wire.setPsk(31, 200);
        wire.open();
        for (int slot = 0; slot < 8; slot++) {
            Wires.sendText(wire, slot % 2, Wires.text(slot, slot));
            wire.deliver(slot, 1 - slot % 2);
        }
        wire.rekey(0);
        wire.put(1);
        wire.init();
        isAsNew("promise 2", wire);

        wire.init();
        wire.setPsk(3, 3);
        wire.init();
        isAsNew("promise 2, key set while closed", wire);

        wire.init();
        due.is("promise 2: setPsk(0, 1)", wire.setPsk(0, 1), true);
    }

    private static void setPsk() {
        byte[] key = new byte[32];
        RecordWire wire = new RecordWire();
        for (int i = 0; i < 32; i++) {
            key[i] = (byte) (255 - 8 * i);
            due.is("promise 3: setPsk(" + i + ", 1)", wire.setPsk(i, 1), true);
            due.is("promise 3: setPsk(" + i + ", b)", wire.setPsk(i, key[i] & 255), true);
        }
        keyIs("promise 3", wire, key);
        for (int i = 0; i < 32; i++) {
            byte[] single = new byte[32];
            single[i] = (byte) 255;
            RecordWire other = new RecordWire();
            due.is("promise 3: setPsk(" + i + ", 255)", other.setPsk(i, 255), true);
            keyIs("promise 3, byte " + i, other, single);
        }
    }

    private static void setPskRefused() {
        RecordWire wire = new RecordWire();
        byte[] key = new byte[32];
        key[0] = 5;
        key[31] = 6;
        wire.setPsk(0, 5);
        wire.setPsk(31, 6);
        for (int i : new int[] {-1, 32, 33, Integer.MIN_VALUE, Integer.MAX_VALUE}) {
            due.is("promise 3: setPsk(" + i + ", 7)", wire.setPsk(i, 7), false);
        }
        for (int b : Wires.NO_BYTES) {
            due.is("promise 3: setPsk(0, " + b + ")", wire.setPsk(0, b), false);
            due.is("promise 3: setPsk(31, " + b + ")", wire.setPsk(31, b), false);
        }
        keyIs("promise 3, refused", wire, key);
        wire.open();
        due.is("promise 3: setPsk(0, 1), open", wire.setPsk(0, 1), false);
        wire.drop(0);
        wire.send(1);
        Wires.slotIs(due, "promise 3, open", wire, 0,
                Spec.record(Spec.Keys.opened(1, key), 1, 0, 0, new byte[0]));
    }

    private static void keyIs(String when, RecordWire wire, byte[] key) {
        wire.open();
        int slot = wire.send(0);
        Wires.slotIs(due, when, wire, slot,
                Spec.record(Spec.Keys.opened(0, key), 0, 0, 0, new byte[0]));
    }

    private static void open() {
        RecordWire wire = new RecordWire();
        byte[] text = Wires.text(5, 1);
        for (byte b : text) {
            wire.put(b & 255);
        }
        Wires.countsAre(due, "promise 4, closed", wire, 0, 5, -1, -1, 0, 0);
        wire.open();
        Wires.countsAre(due, "promise 4", wire, 0, 5, 0, 0, 0, 0);
        due.is("promise 4: send(1)", wire.send(1), 0);
        Wires.slotIs(due, "promise 4", wire, 0,
                Spec.record(Spec.Keys.opened(1, ZERO_KEY), 1, 0, 0, text));
    }

    private static void openAgain() {
        RecordWire wire = Wires.opened();
        byte[] text = Wires.text(3, 250);
        wire.rekey(0);
        Wires.sendText(wire, 0, text);
        Wires.sendText(wire, 1, text);
        wire.deliver(0, 1);
        wire.deliver(1, 0);
        wire.put(1);
        wire.open();
        Wires.countsAre(due, "promise 4, again", wire, 2, 1, 1, 0, 1, 1);
        Wires.inboxIs(due, "promise 4, again", wire, text);
        due.is("promise 4, again: deliver(0, 1)", wire.deliver(0, 1), 6);
        due.is("promise 4, again: send(0)", wire.send(0), 2);
        Wires.slotIs(due, "promise 4, again", wire, 2,
                Spec.record(Spec.Keys.at(0, ZERO_KEY, 1), 0, 1, 1, new byte[] {1}));
    }

    private static void put() {
        RecordWire wire = new RecordWire();
        for (int b : Wires.NO_BYTES) {
            due.is("promise 5: put(" + b + ")", wire.put(b), false);
        }
        Wires.countsAre(due, "promise 5, refused", wire, 0, 0);
        byte[] text = Wires.text(96, 0);
        text[1] = (byte) 255;
        for (int i = 0; i < 96; i++) {
            if (i == 40) {
                wire.open();
            }
            due.is("promise 5: put, before " + i, wire.count(1), i);
            due.is("promise 5: put", wire.put(text[i] & 255), true);
        }
        due.is("promise 5: put(0), 96 there", wire.put(0), false);
        due.is("promise 5: put(255), 96 there", wire.put(255), false);
        due.is("promise 5: count(1)", wire.count(1), 96);
        wire.send(0);
        Wires.slotIs(due, "promise 5", wire, 0,
                Spec.record(Spec.Keys.opened(0, ZERO_KEY), 0, 0, 0, text));
        due.is("promise 5: put(7), after send", wire.put(7), true);
        due.is("promise 5: count(1), after send", wire.count(1), 1);
    }

    /** Every length, so that every length of the tag's padding and of the stream is met. */
    private static void sendRecords() {
        byte[] key = Wires.text(32, 11);
        for (int length = 0; length <= 96; length++) {
            for (int side = 0; side < 2; side++) {
                RecordWire wire = new RecordWire();
                for (int i = 0; i < 32; i++) {
                    wire.setPsk(i, key[i] & 255);
                }
                wire.open();
                byte[] text = Wires.text(length, length + side);
                due.is("promise 6: send", Wires.sendText(wire, side, text), 0);
                Wires.slotIs(due, "promise 6, length " + length, wire, 0,
                        Spec.record(Spec.Keys.opened(side, key), side, 0, 0, text));
                due.is("promise 6: count(1)", wire.count(1), 0);
            }
        }
    }

    private static void sendNumbers() {
        RecordWire wire = Wires.opened();
        byte[] text = Wires.text(9, 77);
        Wires.sendText(wire, 1, text);
        for (int number = 0; number < 8; number++) {
            due.is("promise 6: send(0)", Wires.sendText(wire, 0, text), 1);
            Wires.slotIs(due, "promise 6, number " + number, wire, 1,
                    Spec.record(Spec.Keys.opened(0, ZERO_KEY), 0, 0, number, text));
            wire.drop(1);
        }
        RecordWire far = Wires.opened();
        for (int number = 0; number < 256; number++) {
            if (far.send(0) == 7) {
                far.drop(7);
            }
        }
        due.is("promise 6: send(0), number 256", far.send(0), 7);
        due.is("promise 6: wireAt(7, 11), number 256", far.wireAt(7, 11), 1);
        due.is("promise 6: wireAt(7, 12), number 256", far.wireAt(7, 12), 0);
    }

    private static void sendRefused() {
        RecordWire wire = new RecordWire();
        wire.put(42);
        due.is("promise 6: send(0), closed", wire.send(0), -1);
        due.is("promise 6: send(1), closed", wire.send(1), -1);
        wire.open();
        for (int side : Wires.NO_SIDES) {
            due.is("promise 6: send(" + side + ")", wire.send(side), -1);
        }
        Wires.countsAre(due, "promise 6, refused", wire, 0, 1);
        for (int slot = 0; slot < 8; slot++) {
            due.is("promise 6: send(0)", wire.send(0), slot);
        }
        wire.put(43);
        due.is("promise 6: send(0), full", wire.send(0), -2);
        due.is("promise 6: send(1), full", wire.send(1), -2);
        for (int side : Wires.NO_SIDES) {
            due.is("promise 6: send(" + side + "), full", wire.send(side), -1);
        }
        Wires.countsAre(due, "promise 6, full", wire, 8, 1, 0, 0, 0, 0);
        wire.drop(6);
        due.is("promise 6: send(0), one empty", wire.send(0), 6);
        Wires.slotIs(due, "promise 6, behind full", wire, 6,
                Spec.record(Spec.Keys.opened(0, ZERO_KEY), 0, 0, 8, new byte[] {43}));
        Wires.slotIs(due, "promise 6, the first", wire, 0,
                Spec.record(Spec.Keys.opened(0, ZERO_KEY), 0, 0, 0, new byte[] {42}));
    }

    private static void sendFirstEmptySlot() {
        RecordWire wire = Wires.opened();
        for (int slot = 0; slot < 8; slot++) {
            due.is("promise 6: send(1)", wire.send(1), slot);
        }
        wire.drop(5);
        wire.drop(2);
        wire.drop(7);
        due.is("promise 6: first empty", wire.send(0), 2);
        due.is("promise 6: second empty", wire.send(0), 5);
        due.is("promise 6: third empty", wire.send(0), 7);
        due.is("promise 6: none empty", wire.send(0), -2);
    }

    private static void gotAndGotLen() {
        RecordWire wire = Wires.opened();
        due.is("promise 9: gotLen()", wire.gotLen(), 0);
        due.is("promise 8: got(0)", wire.got(0), -1);
        byte[] text = Wires.text(96, 200);
        Wires.sendText(wire, 1, text);
        due.is("promise 9: gotLen(), sent alone", wire.gotLen(), 0);
        wire.deliver(0, 0);
        Wires.inboxIs(due, "promises 8 and 9", wire, text);
        for (int i : new int[] {-1, 96, 97, 126, 127, Integer.MIN_VALUE, Integer.MAX_VALUE}) {
            due.is("promise 8: got(" + i + ")", wire.got(i), -1);
        }
        wire.drop(0);
        wire.rekey(1);
        Wires.inboxIs(due, "promises 8 and 9, dropped", wire, text);
        byte[] shorter = {(byte) 255};
        Wires.sendText(wire, 0, shorter);
        wire.deliver(0, 1);
        Wires.inboxIs(due, "promises 8 and 9, shorter", wire, shorter);
        Wires.sendText(wire, 0, new byte[0]);
        wire.deliver(1, 1);
        Wires.inboxIs(due, "promises 8 and 9, empty", wire, new byte[0]);
    }

    private static void corrupt() {
        RecordWire wire = new RecordWire();
        due.is("promise 10: corrupt(0, 0, 0), empty", wire.corrupt(0, 0, 0), false);
        wire.open();
        byte[] want = Spec.record(Spec.Keys.opened(0, ZERO_KEY), 0, 0, 0, Wires.text(2, 4));
        Wires.sendText(wire, 0, Wires.text(2, 4));
        for (int slot : Wires.NO_SLOTS) {
            due.is("promise 10: corrupt(" + slot + ", 0, 1)", wire.corrupt(slot, 0, 1), false);
        }
        for (int b : Wires.NO_BYTES) {
            due.is("promise 10: corrupt(0, 0, " + b + ")", wire.corrupt(0, 0, b), false);
        }
        for (int i : new int[] {-1, 33, 34, 126, 127, Integer.MIN_VALUE, Integer.MAX_VALUE}) {
            due.is("promise 10: corrupt(0, " + i + ", 1)", wire.corrupt(0, i, 1), false);
        }
        due.is("promise 10: corrupt(1, 0, 1)", wire.corrupt(1, 0, 1), false);
        Wires.slotIs(due, "promise 10, refused", wire, 0, want);
        for (int i = 0; i < 33; i++) {
            int b = i % 3 == 0 ? 255 : i % 3 == 1 ? 0 : want[i] & 255;
            due.is("promise 10: corrupt(0, " + i + ", " + b + ")", wire.corrupt(0, i, b), true);
            want[i] = (byte) b;
        }
        Wires.slotIs(due, "promise 10", wire, 0, want);
        wire.drop(0);
        due.is("promise 10: corrupt(0, 0, 0), dropped", wire.corrupt(0, 0, 0), false);
        wire.send(0);
        Wires.slotIs(due, "promise 10, sent again", wire, 0,
                Spec.record(Spec.Keys.opened(0, ZERO_KEY), 0, 0, 1, new byte[0]));
    }

    private static void drop() {
        RecordWire wire = Wires.opened();
        for (int slot : Wires.NO_SLOTS) {
            due.is("promise 11: drop(" + slot + ")", wire.drop(slot), false);
        }
        for (int slot = 0; slot < 8; slot++) {
            due.is("promise 11: drop(" + slot + "), empty", wire.drop(slot), false);
            wire.send(slot % 2);
        }
        for (int slot = 7; slot >= 0; slot--) {
            due.is("promise 11: drop(" + slot + ")", wire.drop(slot), true);
            due.is("promise 11: count(0)", wire.count(0), slot);
            due.is("promise 11: wireAt(" + slot + ", 0)", wire.wireAt(slot, 0), -1);
            due.is("promise 11: drop(" + slot + "), again", wire.drop(slot), false);
        }
    }

    private static void rekey() {
        RecordWire wire = Wires.opened();
        byte[] text = Wires.text(3, 5);
        Wires.sendText(wire, 0, text);
        Wires.sendText(wire, 1, text);
        wire.deliver(0, 1);
        wire.deliver(1, 0);
        for (int epoch = 1; epoch <= 3; epoch++) {
            due.is("promise 12: rekey(1)", wire.rekey(1), epoch);
            Wires.countsAre(due, "promise 12", wire, 2, 0, 0, epoch, 1, 0);
            Wires.inboxIs(due, "promise 12", wire, text);
            due.is("promise 12: deliver(1, 0), the epoch before", wire.deliver(1, 0), 3);
            wire.drop(1);
            Wires.sendText(wire, 1, text);
            Wires.slotIs(due, "promise 12, epoch " + epoch, wire, 1,
                    Spec.record(Spec.Keys.at(1, ZERO_KEY, epoch), 1, epoch, 0, text));
            due.is("promise 12: deliver(1, 0)", wire.deliver(1, 0), 0);
        }
        due.is("promise 12: deliver(0, 1)", wire.deliver(0, 1), 6);
        due.is("promise 12: rekey(0)", wire.rekey(0), 1);
        Wires.countsAre(due, "promise 12, both", wire, 2, 0, 1, 3, 0, 1);
        Wires.sendText(wire, 0, text);
        Wires.slotIs(due, "promise 12, both", wire, 2,
                Spec.record(Spec.Keys.at(0, ZERO_KEY, 1), 0, 1, 0, text));
    }

    private static void rekeyOften() {
        RecordWire wire = Wires.opened();
        for (int epoch = 1; epoch <= 300; epoch++) {
            due.is("promise 12: rekey(0)", wire.rekey(0), epoch);
        }
        wire.send(0);
        Wires.slotIs(due, "promise 12, epoch 300", wire, 0,
                Spec.record(Spec.Keys.at(0, ZERO_KEY, 300), 0, 300, 0, new byte[0]));
    }

    private static void rekeyRefused() {
        RecordWire wire = new RecordWire();
        due.is("promise 12: rekey(0), closed", wire.rekey(0), -1);
        due.is("promise 12: rekey(1), closed", wire.rekey(1), -1);
        wire.open();
        for (int side : Wires.NO_SIDES) {
            due.is("promise 12: rekey(" + side + ")", wire.rekey(side), -1);
        }
        Wires.countsAre(due, "promise 12, refused", wire, 0, 0, 0, 0, 0, 0);
    }

    private static void wireAt() {
        RecordWire wire = Wires.opened();
        for (int slot = 0; slot < 8; slot++) {
            due.is("promise 13: wireAt(" + slot + ", 0), empty", wire.wireAt(slot, 0), -1);
        }
        for (int slot = 0; slot < 8; slot++) {
            Wires.sendText(wire, 0, Wires.text(slot, slot));
        }
        for (int slot = 0; slot < 8; slot++) {
            Wires.slotIs(due, "promise 13", wire, slot, Spec.record(
                    Spec.Keys.opened(0, ZERO_KEY), 0, 0, slot, Wires.text(slot, slot)));
            due.is("promise 13: wireAt(" + slot + ", -1)", wire.wireAt(slot, -1), -1);
        }
        for (int slot : Wires.NO_SLOTS) {
            due.is("promise 13: wireAt(" + slot + ", 0)", wire.wireAt(slot, 0), -1);
        }
        for (int i : new int[] {127, 128, Integer.MIN_VALUE, Integer.MAX_VALUE}) {
            due.is("promise 13: wireAt(0, " + i + ")", wire.wireAt(0, i), -1);
        }
    }

    private static void count() {
        RecordWire wire = new RecordWire();
        wire.put(1);
        Wires.countsAre(due, "promise 14, closed", wire, 0, 1, -1, -1, 0, 0);
        wire.open();
        Wires.countsAre(due, "promise 14", wire, 0, 1, 0, 0, 0, 0);
        wire.send(0);
        wire.send(0);
        wire.send(1);
        wire.deliver(0, 1);
        wire.deliver(1, 1);
        wire.deliver(2, 0);
        wire.put(1);
        wire.put(1);
        Wires.countsAre(due, "promise 14, used", wire, 3, 2, 0, 0, 2, 1);
        wire.rekey(0);
        wire.rekey(1);
        wire.rekey(1);
        wire.drop(1);
        Wires.countsAre(due, "promise 14, gone on", wire, 2, 2, 1, 2, 0, 0);
        for (int what : new int[] {-1, 6, 7, Integer.MIN_VALUE, Integer.MAX_VALUE}) {
            due.is("promise 14: count(" + what + ")", wire.count(what), -1);
        }
    }
}
