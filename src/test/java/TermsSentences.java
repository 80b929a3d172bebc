import java.util.Arrays;
import java.util.List;

/** The sentences of 'Terms', each edge of them with a test. */
final class TermsSentences {
    private static final byte[] KEY = Wires.text(32, 11);

    private TermsSentences() {
    }

    static List<Sentence> all() {
        return List.of(
                Sentence.terms("THE SHARED KEY has 32 bytes,", "each of the 32 counts",
                        TermsSentences::everyByteOfTheKeyCounts),
                Sentence.terms("all 0 at first.", "nothing set", TermsSentences::keyIsZeroAtFirst),
                Sentence.terms("TO OPEN: P is HMAC(32 bytes 0, the shared key);", "any key",
                        TermsSentences::openedKeys),
                Sentence.terms("for each DIRECTION d (0 from side 0 to side 1; 1 the other way)",
                        "both", TermsSentences::directions),
                Sentence.terms("the key to SEAL is HMAC(P, three bytes: d, 0, 1),", "both directions",
                        TermsSentences::sealKeys),
                Sentence.terms("the key to TAG HMAC(P, d, 1, 1);", "both directions",
                        TermsSentences::tagKeys),
                Sentence.terms("its EPOCH is 0,", "just opened", TermsSentences::firstEpoch),
                Sentence.terms("its next NUMBER 0, nothing is seen.", "the first record",
                        TermsSentences::firstNumber),
                Sentence.terms("its next NUMBER 0, nothing is seen.", "the first number is any",
                        TermsSentences::nothingSeenAtFirst),
                Sentence.terms(
                        "TO GO ON, a direction: P is HMAC(its key to tag, its key to seal);",
                        "one time and more", TermsSentences::keysGoOn),
                Sentence.terms("both keys are made of P as above;", "both directions",
                        TermsSentences::bothKeysGoOn),
                Sentence.terms("its epoch is one more,", "past a byte", TermsSentences::epochGoesOn),
                Sentence.terms("its epoch is one more,", "the other direction's stays",
                        TermsSentences::otherEpochStays),
                Sentence.terms("its next number 0, nothing is seen.", "numbers start again",
                        TermsSentences::numbersStartAgain),
                Sentence.terms("its next number 0, nothing is seen.", "the window is forgotten",
                        TermsSentences::windowIsForgotten),
                Sentence.terms("A RECORD has: the direction (1 byte), the epoch (4), the number (8),"
                        + " the length of its text (2), all with the highest byte first;",
                        "an epoch past a byte", TermsSentences::epochInRecord),
                Sentence.terms("A RECORD has: the direction (1 byte), the epoch (4), the number (8),"
                        + " the length of its text (2), all with the highest byte first;",
                        "a number past a byte", TermsSentences::numberInRecord),
                Sentence.terms("A RECORD has: the direction (1 byte), the epoch (4), the number (8),"
                        + " the length of its text (2), all with the highest byte first;",
                        "the shortest and the longest", TermsSentences::lengthInRecord),
                Sentence.terms("the text, sealed;", "no byte, one, and 96",
                        TermsSentences::sealedTextInRecord),
                Sentence.terms("and the first 16 bytes of HMAC(the key to tag, all bytes before).",
                        "every length", TermsSentences::tagInRecord),
                Sentence.terms("A text has 0 to 96 bytes.", "0", TermsSentences::emptyText),
                Sentence.terms("A text has 0 to 96 bytes.", "96, and never 97",
                        TermsSentences::longestText),
                Sentence.terms("It is SEALED (and opened) by xor with the stream of Salsa20"
                        + " (20 rounds, as specified, with the 32 bytes of the key to seal;",
                        "about the edge of a block", TermsSentences::sealedAndOpened),
                Sentence.terms("the nonce's 8 bytes are those of the number as they stand in the"
                        + " record;", "all 8 differ", TermsSentences::nonce),
                Sentence.terms("the nonce's 8 bytes are those of the number as they stand in the"
                        + " record;", "number 1", TermsSentences::nonceOfTheSecond),
                Sentence.terms("blocks from 0 on).", "byte 63 and byte 64", TermsSentences::blocks),
                Sentence.terms("THE WINDOW of a direction:", "each has its own",
                        TermsSentences::windowsAreApart),
                Sentence.terms("the greatest number seen,", "a smaller one does not lower it",
                        TermsSentences::greatestStays),
                Sentence.terms("and of it and the 63 below it which were seen.", "all 64",
                        TermsSentences::wholeWindow),
                Sentence.terms("and of it and the 63 below it which were seen.",
                        "it goes on by 1, 62 to 65, and far", TermsSentences::windowGoesOn),
                Sentence.terms("SLOTS 0 .. 7 are empty or have a record,", "7 is one, -1 and 8 not",
                        TermsSentences::eightSlots),
                Sentence.terms("of which bytes may be changed.", "all bytes of a slot, to anything",
                        TermsSentences::bytesMayBeChanged),
                Sentence.terms("THE OUTBOX takes bytes till a record is sent;", "across open",
                        TermsSentences::outboxTillSent),
                Sentence.terms("THE INBOX has the latest text that was taken.",
                        "shorter, empty, from either side", TermsSentences::latestText));
    }

    private static void everyByteOfTheKeyCounts(Trial t) {
        for (int i = 0; i < 32; i++) {
            byte[] key = new byte[32];
            key[i] = (byte) 129;
            Wire wire = t.fresh();
            t.due(true, wire.setPsk(i, 129));
            t.due(false, wire.setPsk(32, 1));
            wire.open();
            wire.send(0);
            t.slotIs(Wires.record(key, 0, 0, 0, Wires.NO_TEXT), wire, 0);
        }
    }

    private static void keyIsZeroAtFirst(Trial t) {
        Wire wire = t.opened();
        wire.send(0);
        wire.send(1);
        t.slotIs(Wires.record(new byte[32], 0, 0, 0, Wires.NO_TEXT), wire, 0);
        t.slotIs(Wires.record(new byte[32], 1, 0, 0, Wires.NO_TEXT), wire, 1);
    }

    private static void openedKeys(Trial t) {
        for (int side = 0; side < 2; side++) {
            Wire wire = t.openedWith(KEY);
            Wires.sendText(wire, side, Wires.text(96, 1));
            t.slotIs(Wires.record(KEY, side, 0, 0, Wires.text(96, 1)), wire, 0);
        }
    }

    private static void directions(Trial t) {
        Wire wire = t.opened();
        for (int side = 0; side < 2; side++) {
            t.due(side, wire.send(side));
            t.due(side, wire.wireAt(side, 0));
            t.due(2, wire.deliver(side, side));
            t.due(0, wire.deliver(side, 1 - side));
        }
    }

    private static void sealKeys(Trial t) {
        for (int side = 0; side < 2; side++) {
            byte[] root = Spec.hmac(new byte[32], KEY);
            byte[] sealKey = Spec.hmac(root, new byte[] {(byte) side, 0, 1});
            Wire wire = t.openedWith(KEY);
            // The stream itself, since the text is 0.
            Wires.sendText(wire, side, new byte[32]);
            t.bytesAre(Spec.stream(sealKey, new byte[8], 32), 15, wire, 0);
        }
    }

    private static void tagKeys(Trial t) {
        for (int side = 0; side < 2; side++) {
            byte[] root = Spec.hmac(new byte[32], KEY);
            byte[] tagKey = Spec.hmac(root, new byte[] {(byte) side, 1, 1});
            byte[] head = new byte[15];
            head[0] = (byte) side;
            Wire wire = t.openedWith(KEY);
            wire.send(side);
            t.bytesAre(Arrays.copyOf(Spec.hmac(tagKey, head), 16), 15, wire, 0);
        }
    }

    private static void firstEpoch(Trial t) {
        Wire wire = t.opened();
        t.due(0, wire.count(2));
        t.due(0, wire.count(3));
        for (int side = 0; side < 2; side++) {
            wire.send(side);
            t.bytesAre(new byte[4], 1, wire, side);
        }
    }

    private static void firstNumber(Trial t) {
        Wire wire = t.opened();
        for (int side = 0; side < 2; side++) {
            wire.send(side);
            t.bytesAre(new byte[8], 5, wire, side);
        }
    }

    private static void nothingSeenAtFirst(Trial t) {
        for (long number : new long[] {0, 1, 63, 64, 1000, Long.MAX_VALUE, Long.MIN_VALUE, -1}) {
            for (int direction = 0; direction < 2; direction++) {
                Wire wire = t.opened();
                t.due(0, wire.count(4));
                t.due(0, wire.count(5));
                t.due(0, new Forger(wire, direction, Wires.ZERO_KEY).deliver(number));
                t.due(1, wire.count(4 + direction));
            }
        }
    }

    private static void keysGoOn(Trial t) {
        Wire wire = t.openedWith(KEY);
        for (int epoch = 1; epoch <= 4; epoch++) {
            wire.rekey(0);
            Wires.sendText(wire, 0, Wires.text(20, epoch));
            t.slotIs(Wires.record(KEY, 0, epoch, 0, Wires.text(20, epoch)), wire, epoch - 1);
        }
    }

    private static void bothKeysGoOn(Trial t) {
        for (int side = 0; side < 2; side++) {
            Spec.Keys before = Spec.Keys.opened(side, KEY);
            byte[] root = Spec.hmac(before.tag(), before.seal());
            byte[] sealKey = Spec.hmac(root, new byte[] {(byte) side, 0, 1});
            byte[] tagKey = Spec.hmac(root, new byte[] {(byte) side, 1, 1});
            Wire wire = t.openedWith(KEY);
            wire.rekey(side);
            Wires.sendText(wire, side, new byte[32]);
            byte[] stream = Spec.stream(sealKey, new byte[8], 32);
            byte[] untagged = Arrays.copyOf(new byte[] {(byte) side, 0, 0, 0, 1}, 15 + 32);
            untagged[14] = 32;
            System.arraycopy(stream, 0, untagged, 15, 32);
            t.bytesAre(stream, 15, wire, 0);
            t.bytesAre(Arrays.copyOf(Spec.hmac(tagKey, untagged), 16), 15 + 32, wire, 0);
        }
    }

    private static void epochGoesOn(Trial t) {
        Wire wire = t.opened();
        for (int epoch = 1; epoch <= 257; epoch++) {
            t.due(epoch, wire.rekey(1));
        }
        t.due(257, wire.count(3));
        wire.send(1);
        t.slotIs(Wires.record(Wires.ZERO_KEY, 1, 257, 0, Wires.NO_TEXT), wire, 0);
        t.due(0, wire.deliver(0, 0));
    }

    private static void otherEpochStays(Trial t) {
        Wire wire = t.opened();
        wire.send(0);
        wire.send(1);
        wire.rekey(0);
        t.due(1, wire.count(2));
        t.due(0, wire.count(3));
        t.due(3, wire.deliver(0, 1));
        t.due(0, wire.deliver(1, 0));
        wire.rekey(1);
        wire.rekey(1);
        t.due(1, wire.count(2));
        t.due(2, wire.count(3));
    }

    private static void numbersStartAgain(Trial t) {
        Wire wire = t.opened();
        wire.send(0);
        wire.send(0);
        wire.send(1);
        wire.rekey(0);
        t.due(3, wire.send(0));
        t.slotIs(Wires.record(Wires.ZERO_KEY, 0, 1, 0, Wires.NO_TEXT), wire, 3);
        t.due(4, wire.send(0));
        t.slotIs(Wires.record(Wires.ZERO_KEY, 0, 1, 1, Wires.NO_TEXT), wire, 4);
        t.due(5, wire.send(1));
        t.slotIs(Wires.record(Wires.ZERO_KEY, 1, 0, 1, Wires.NO_TEXT), wire, 5);
    }

    private static void windowIsForgotten(Trial t) {
        Wire wire = t.opened();
        Forger forger = new Forger(wire, 0, Wires.ZERO_KEY);
        t.due(0, forger.deliver(0));
        t.due(0, forger.deliver(1000));
        wire.send(1);
        t.due(0, wire.deliver(1, 0));
        wire.rekey(0);
        t.due(0, wire.count(4));
        t.due(1, wire.count(5));
        Forger next = new Forger(wire, 0, Wires.ZERO_KEY, 1, 0);
        t.due(0, next.deliver(0));
        t.due(1, wire.count(4));
        t.due(0, next.deliver(1000));
        t.due(6, wire.deliver(1, 0));
    }

    private static void epochInRecord(Trial t) {
        Wire wire = t.opened();
        for (int epoch = 1; epoch <= 258; epoch++) {
            wire.rekey(0);
        }
        wire.send(0);
        t.bytesAre(new byte[] {0, 0, 0, 1, 2}, 0, wire, 0);
        t.bytesAre(new byte[8], 5, wire, 0);
    }

    private static void numberInRecord(Trial t) {
        Wire wire = t.opened();
        for (int number = 0; number < 256; number++) {
            if (wire.send(0) == 7) {
                wire.drop(7);
            }
        }
        t.due(7, wire.send(0));
        t.bytesAre(new byte[] {0, 0, 1, 0}, 9, wire, 7);
    }

    private static void lengthInRecord(Trial t) {
        for (int length : new int[] {0, 1, 95, 96}) {
            Wire wire = t.opened();
            Wires.sendText(wire, 0, Wires.text(length, 3));
            t.bytesAre(new byte[] {0, (byte) length}, 13, wire, 0);
            t.due(true, wire.wireAt(0, 15 + length + 15) >= 0);
            t.due(-1, wire.wireAt(0, 15 + length + 16));
        }
    }

    private static void sealedTextInRecord(Trial t) {
        for (int length : new int[] {0, 1, 96}) {
            byte[] text = Wires.text(length, 201);
            byte[] record = Wires.record(KEY, 1, 0, 0, text);
            Wire wire = t.openedWith(KEY);
            Wires.sendText(wire, 1, text);
            t.bytesAre(Arrays.copyOfRange(record, 15, 15 + length), 15, wire, 0);
            t.due(-1, wire.wireAt(0, 31 + length));
        }
    }

    /** Every length, so that every length of the hash's padding is met. */
    private static void tagInRecord(Trial t) {
        for (int length = 0; length <= 96; length++) {
            byte[] record = Wires.record(KEY, length % 2, 0, 0, Wires.text(length, length));
            Wire wire = t.openedWith(KEY);
            Wires.sendText(wire, length % 2, Wires.text(length, length));
            t.slotIs(record, wire, 0);
        }
    }

    private static void emptyText(Trial t) {
        Wire wire = t.opened();
        t.due(0, wire.send(0));
        t.slotIs(Wires.record(Wires.ZERO_KEY, 0, 0, 0, Wires.NO_TEXT), wire, 0);
        t.due(0, wire.deliver(0, 1));
        t.inboxIs(Wires.NO_TEXT, wire);
    }

    private static void longestText(Trial t) {
        Wire wire = t.opened();
        byte[] text = Wires.text(96, 90);
        Wires.putText(wire, text);
        t.due(false, wire.put(1));
        t.due(0, wire.send(0));
        t.slotIs(Wires.record(Wires.ZERO_KEY, 0, 0, 0, text), wire, 0);
        t.due(0, wire.deliver(0, 1));
        t.inboxIs(text, wire);
    }

    private static void sealedAndOpened(Trial t) {
        for (int length : new int[] {1, 63, 64, 65, 95, 96}) {
            byte[] text = Wires.text(length, 3 * length);
            Wire wire = t.openedWith(KEY);
            Wires.sendText(wire, 0, text);
            t.slotIs(Wires.record(KEY, 0, 0, 0, text), wire, 0);
            t.due(0, wire.deliver(0, 1));
            t.inboxIs(text, wire);
        }
    }

    private static void nonce(Trial t) {
        for (long number : new long[] {0x0102030405060708L, 0xf1e2d3c4b5a69788L, -1}) {
            byte[] text = Wires.text(96, 17);
            Wire wire = t.opened();
            Wires.sendText(wire, 1, new byte[96]);
            Wires.overwrite(wire, 0, Wires.record(Wires.ZERO_KEY, 1, 0, number, text));
            t.due(0, wire.deliver(0, 0));
            t.inboxIs(text, wire);
        }
    }

    private static void nonceOfTheSecond(Trial t) {
        Wire wire = t.opened();
        wire.send(0);
        Wires.sendText(wire, 0, new byte[8]);
        byte[] sealKey = Spec.Keys.opened(0, Wires.ZERO_KEY).seal();
        t.bytesAre(Spec.stream(sealKey, new byte[] {0, 0, 0, 0, 0, 0, 0, 1}, 8), 15, wire, 1);
    }

    private static void blocks(Trial t) {
        Wire wire = t.opened();
        Wires.sendText(wire, 0, new byte[96]);
        byte[] sealKey = Spec.Keys.opened(0, Wires.ZERO_KEY).seal();
        byte[] place = new byte[16];
        t.bytesAre(Spec.expand(sealKey, place), 15, wire, 0);
        place[8] = 1;
        t.bytesAre(Arrays.copyOf(Spec.expand(sealKey, place), 32), 15 + 64, wire, 0);
    }

    private static void windowsAreApart(Trial t) {
        Wire wire = t.opened();
        Forger oneWay = new Forger(wire, 0, Wires.ZERO_KEY);
        t.due(0, oneWay.deliver(500));
        t.due(1, wire.count(4));
        t.due(0, wire.count(5));
        Forger otherWay = new Forger(wire, 1, Wires.ZERO_KEY);
        t.due(0, otherWay.deliver(500));
        t.due(0, otherWay.deliver(499));
        t.due(5, otherWay.deliver(436));
        t.due(0, oneWay.deliver(499));
        t.due(2, wire.count(4));
        t.due(2, wire.count(5));
    }

    private static void greatestStays(Trial t) {
        Wire wire = t.opened();
        Forger forger = new Forger(wire, 0, Wires.ZERO_KEY);
        t.due(0, forger.deliver(100));
        t.due(0, forger.deliver(40));
        t.due(5, forger.deliver(36));
        t.due(0, forger.deliver(37));
        t.due(0, forger.deliver(99));
        t.due(5, forger.deliver(36));
        t.due(4, wire.count(4));
        // What is refused does not raise it either.
        t.due(6, forger.deliver(100));
        t.due(6, forger.deliver(37));
    }

    /** Numbers that were sent, none of them forged. */
    private static void wholeWindow(Trial t) {
        Wire wire = t.opened();
        t.due(0, wire.send(1));
        for (int number = 1; number <= 63; number++) {
            t.due(1, wire.send(1));
            t.due(0, wire.deliver(1, 0));
            t.due(number, wire.count(5));
            wire.drop(1);
        }
        t.due(0, wire.deliver(0, 0));
        t.due(64, wire.count(5));
        t.due(6, wire.deliver(0, 0));
        t.due(1, wire.send(1));
        t.due(0, wire.deliver(1, 0));
        t.due(64, wire.count(5));
        t.due(5, wire.deliver(0, 0));
    }

    private static void windowGoesOn(Trial t) {
        for (long step : new long[] {1, 62, 63, 64, 65, 127, 128, 1L << 32, 1L << 62, Long.MAX_VALUE}) {
            Wire wire = t.opened();
            Forger forger = new Forger(wire, 0, Wires.ZERO_KEY);
            long first = 1000;
            t.due(0, forger.deliver(first - 62));
            t.due(0, forger.deliver(first));
            t.due(0, forger.deliver(first + step));
            t.due(step == 1 ? 3 : step < 64 ? 2 : 1, wire.count(4));
            t.due(step == 1 ? 6 : 5, forger.deliver(first - 62));
            t.due(step < 64 ? 6 : 5, forger.deliver(first));
            t.due(6, forger.deliver(first + step));
            t.due(step == 1 || step == 63 ? 6 : 0, forger.deliver(first + step - 63));
            t.due(5, forger.deliver(first + step - 64));
        }
    }

    private static void eightSlots(Trial t) {
        Wire wire = t.opened();
        for (int slot = 0; slot < 8; slot++) {
            t.slotIsEmpty(wire, slot);
            t.due(slot, wire.send(0));
            t.due(0, wire.wireAt(slot, 0));
            t.due(0, wire.deliver(slot, 1));
        }
        t.due(-2, wire.send(0));
        for (int slot : Wires.NO_SLOTS) {
            t.slotIsEmpty(wire, slot);
            t.due(false, wire.drop(slot));
        }
        t.due(8, wire.count(0));
    }

    private static void bytesMayBeChanged(Trial t) {
        for (int slot = 0; slot < 8; slot += 7) {
            Wire wire = t.opened();
            for (int i = 0; i < slot; i++) {
                wire.send(1);
            }
            Wires.sendText(wire, 0, Wires.text(96, 0));
            byte[] changed = Wires.text(127, 77);
            Wires.overwrite(wire, slot, changed);
            t.slotIs(changed, wire, slot);
            t.due(slot + 1, wire.count(0));
        }
    }

    private static void outboxTillSent(Trial t) {
        Wire wire = t.fresh();
        t.due(true, wire.put(1));
        wire.open();
        t.due(true, wire.put(2));
        wire.rekey(0);
        t.due(true, wire.put(3));
        wire.deliver(0, 0);
        wire.drop(0);
        t.due(3, wire.count(1));
        t.due(0, wire.send(0));
        t.slotIs(Wires.record(Wires.ZERO_KEY, 0, 1, 0, new byte[] {1, 2, 3}), wire, 0);
        t.due(0, wire.count(1));
        t.due(true, wire.put(4));
        t.due(1, wire.send(1));
        t.slotIs(Wires.record(Wires.ZERO_KEY, 1, 0, 0, new byte[] {4}), wire, 1);
    }

    private static void latestText(Trial t) {
        Wire wire = t.opened();
        byte[] longer = Wires.text(96, 5);
        byte[] shorter = Wires.text(2, 6);
        Wires.sendText(wire, 0, longer);
        Wires.sendText(wire, 1, shorter);
        wire.send(0);
        t.inboxIs(Wires.NO_TEXT, wire);
        t.due(0, wire.deliver(0, 1));
        t.inboxIs(longer, wire);
        t.due(0, wire.deliver(1, 0));
        t.inboxIs(shorter, wire);
        t.due(6, wire.deliver(0, 1));
        t.inboxIs(shorter, wire);
        t.due(0, wire.deliver(2, 1));
        t.inboxIs(Wires.NO_TEXT, wire);
    }
}
