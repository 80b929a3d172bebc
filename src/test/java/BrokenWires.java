import java.math.BigInteger;
import java.util.ArrayList;
import java.util.Arrays;
import java.util.List;
import java.util.TreeSet;
import java.util.function.Supplier;

/** Wires that break one sentence each, and keep the others as far as they can. */
final class BrokenWires {
    /** A wire that breaks these words in this way. */
    record Broken(String where, String words, String how, Supplier<Wire> maker) {
        @Override
        public String toString() {
            return where + " '" + words + "', broken: " + how;
        }
    }

    private static final String RECORD = "A RECORD has: the direction (1 byte), the epoch (4), the"
            + " number (8), the length of its text (2), all with the highest byte first;";
    private static final String NONCE =
            "the nonce's 8 bytes are those of the number as they stand in the record;";
    private static final String INTO_SLOT =
            "The outbox goes as a record from a side into the first empty slot";
    private static final String NO_SLOT = "-2 no empty slot (nothing changes).";
    private static final String NO_PLACE =
            "false (and nothing changes) if there is no such place,";
    private static final String NO_DIRECTION = "2 its direction is not to that side (or none),";
    private static final String FIRST = "the first that holds of:";

    private BrokenWires() {
    }

    static List<Broken> all() {
        List<Broken> all = new ArrayList<>();
        all.addAll(keys());
        all.addAll(records());
        all.addAll(windowsAndBoxes());
        all.addAll(newAndInit());
        all.addAll(setPskAndOpen());
        all.addAll(put());
        all.addAll(send());
        all.addAll(deliver());
        all.addAll(elseNothingChanges());
        all.addAll(order());
        all.addAll(verdicts());
        all.addAll(got());
        all.addAll(corrupt());
        all.addAll(drop());
        all.addAll(rekey());
        all.addAll(wireAt());
        all.addAll(count());
        all.add(new Broken("What it is",
                "An object is used for at most 512 calls after it has been made;", "tired before",
                () -> new PlainWire() {
            @Override
            void goOn(int d) {
                if (epochs[d] < 256) {
                    super.goOn(d);
                }
            }
        }));
        return all;
    }

    private static Broken terms(String words, String how, Supplier<Wire> maker) {
        return new Broken("Terms", words, how, maker);
    }

    private static Broken promise(int number, String words, String how, Supplier<Wire> maker) {
        return new Broken("Promise " + number, words, how, maker);
    }

    private static List<Broken> keys() {
        return List.of(
                terms("THE SHARED KEY has 32 bytes,", "the last does not count", () -> new PlainWire() {
                    @Override
                    Spec.Keys firstKeys(int d) {
                        return Spec.Keys.opened(d, Arrays.copyOf(Arrays.copyOf(sharedKey, 31), 32));
                    }
                }),
                terms("all 0 at first.", "a 1", () -> new PlainWire() {
                    {
                        sharedKey[31] = 1;
                    }
                }),
                terms("TO OPEN: P is HMAC(32 bytes 0, the shared key);", "the other way round",
                        () -> new PlainWire() {
                    @Override
                    Spec.Keys firstKeys(int d) {
                        return Spec.Keys.of(d, Spec.hmac(sharedKey, new byte[32]));
                    }
                }),
                terms("for each DIRECTION d (0 from side 0 to side 1; 1 the other way)", "swapped",
                        () -> new PlainWire() {
                    @Override
                    public int send(int side) {
                        return super.send(1 - side);
                    }
                }),
                terms("the key to SEAL is HMAC(P, three bytes: d, 0, 1),", "d is 0 always",
                        () -> new PlainWire() {
                    @Override
                    Spec.Keys firstKeys(int d) {
                        return new Spec.Keys(super.firstKeys(0).seal(), super.firstKeys(d).tag());
                    }
                }),
                terms("the key to TAG HMAC(P, d, 1, 1);", "d is 0 always", () -> new PlainWire() {
                    @Override
                    Spec.Keys firstKeys(int d) {
                        return new Spec.Keys(super.firstKeys(d).seal(), super.firstKeys(0).tag());
                    }
                }),
                terms("its EPOCH is 0,", "1", () -> new PlainWire() {
                    @Override
                    Spec.Keys firstKeys(int d) {
                        epochs[d] = 1;
                        return super.firstKeys(d);
                    }
                }),
                terms("its next NUMBER 0, nothing is seen.", "1", () -> new PlainWire() {
                    @Override
                    Spec.Keys firstKeys(int d) {
                        next[d] = 1;
                        return super.firstKeys(d);
                    }
                }),
                terms("its next NUMBER 0, nothing is seen.", "0 is seen", () -> new PlainWire() {
                    @Override
                    Spec.Keys firstKeys(int d) {
                        seen[d].add(BigInteger.ZERO);
                        return super.firstKeys(d);
                    }
                }),
                terms("TO GO ON, a direction: P is HMAC(its key to tag, its key to seal);",
                        "the other way round", () -> new PlainWire() {
                    @Override
                    void goOn(int d) {
                        Spec.Keys before = keys[d];
                        super.goOn(d);
                        keys[d] = Spec.Keys.of(d, Spec.hmac(before.seal(), before.tag()));
                    }
                }),
                terms("both keys are made of P as above;", "the key to tag stays",
                        () -> new PlainWire() {
                    @Override
                    void goOn(int d) {
                        Spec.Keys before = keys[d];
                        super.goOn(d);
                        keys[d] = new Spec.Keys(keys[d].seal(), before.tag());
                    }
                }),
                terms("its epoch is one more,", "255 and then 0", () -> new PlainWire() {
                    @Override
                    void goOn(int d) {
                        super.goOn(d);
                        epochs[d] &= 255;
                    }
                }),
                terms("its epoch is one more,", "the other's too", () -> new PlainWire() {
                    @Override
                    void goOn(int d) {
                        super.goOn(d);
                        epochs[1 - d]++;
                    }
                }),
                terms("its next number 0, nothing is seen.", "numbers stay", () -> new PlainWire() {
                    @Override
                    void goOn(int d) {
                        long before = next[d];
                        super.goOn(d);
                        next[d] = before;
                    }
                }),
                terms("its next number 0, nothing is seen.", "the window stays",
                        () -> new PlainWire() {
                    @Override
                    void goOn(int d) {
                        TreeSet<BigInteger> before = new TreeSet<>(seen[d]);
                        super.goOn(d);
                        seen[d] = before;
                    }
                }));
    }

    private static List<Broken> records() {
        return List.of(
                terms(RECORD, "the epoch's lowest byte first", () -> new PlainWire() {
                    @Override
                    byte[] record(int d, int epoch, long number, byte[] text) {
                        return super.record(d, Integer.reverseBytes(epoch), number, text);
                    }
                }),
                terms(RECORD, "the number in one byte", () -> new PlainWire() {
                    @Override
                    byte[] record(int d, int epoch, long number, byte[] text) {
                        return super.record(d, epoch, number & 255, text);
                    }
                }),
                terms(RECORD, "the length's lowest byte first", () -> new PlainWire() {
                    @Override
                    byte[] record(int d, int epoch, long number, byte[] text) {
                        byte[] record = super.record(d, epoch, number, text);
                        record[13] = record[14];
                        record[14] = 0;
                        return record;
                    }
                }),
                terms("the text, sealed;", "as it is", () -> new PlainWire() {
                    @Override
                    byte[] sealed(int d, byte[] head, byte[] text) {
                        return text;
                    }
                }),
                terms("and the first 16 bytes of HMAC(the key to tag, all bytes before).",
                        "the last of them is another", () -> new PlainWire() {
                    @Override
                    byte[] record(int d, int epoch, long number, byte[] text) {
                        byte[] record = super.record(d, epoch, number, text);
                        record[record.length - 1] ^= 1;
                        return record;
                    }
                }),
                terms("A text has 0 to 96 bytes.", "1 at least", () -> new PlainWire() {
                    @Override
                    public int send(int side) {
                        return outbox.length == 0 ? -1 : super.send(side);
                    }
                }),
                terms("A text has 0 to 96 bytes.", "97", () -> new PlainWire() {
                    @Override
                    public boolean put(int b) {
                        if (outbox.length == 96 && b >= 0 && b < 256) {
                            putInOutbox(b);
                            return true;
                        }
                        return super.put(b);
                    }
                }),
                terms("It is SEALED (and opened) by xor with the stream of Salsa20 (20 rounds, as"
                        + " specified, with the 32 bytes of the key to seal;", "16 bytes of the key",
                        () -> new PlainWire() {
                    @Override
                    byte[] sealed(int d, byte[] head, byte[] text) {
                        byte[] half = Arrays.copyOf(Arrays.copyOf(keys[d].seal(), 16), 32);
                        byte[] nonce = Arrays.copyOfRange(head, 5, 13);
                        return Spec.xor(text, Spec.stream(half, nonce, text.length));
                    }
                }),
                terms(NONCE, "the lowest byte first", () -> new PlainWire() {
                    @Override
                    byte[] sealed(int d, byte[] head, byte[] text) {
                        byte[] turned = head.clone();
                        for (int i = 0; i < 8; i++) {
                            turned[5 + i] = head[12 - i];
                        }
                        return super.sealed(d, turned, text);
                    }
                }),
                terms("blocks from 0 on).", "block 0 again and again", () -> new PlainWire() {
                    @Override
                    byte[] sealed(int d, byte[] head, byte[] text) {
                        byte[] nonce = Arrays.copyOfRange(head, 5, 13);
                        byte[] stream = Spec.stream(keys[d].seal(), nonce, 128);
                        System.arraycopy(stream, 0, stream, 64, 64);
                        return Spec.xor(text, stream);
                    }
                }));
    }

    private static List<Broken> windowsAndBoxes() {
        return List.of(
                terms("THE WINDOW of a direction:", "one for both", () -> new PlainWire() {
                    {
                        seen[1] = seen[0];
                    }
                }),
                terms("the greatest number seen,", "the latest one", () -> new PlainWire() {
                    @Override
                    void take(byte[] record, int d) {
                        super.take(record, d);
                        seen[d].tailSet(numberOf(record), false).clear();
                    }
                }),
                terms("and of it and the 63 below it which were seen.", "the 62 below",
                        () -> new PlainWire() {
                    @Override
                    BigInteger lowest(int d) {
                        return super.lowest(d).add(BigInteger.ONE);
                    }
                }),
                terms("SLOTS 0 .. 7 are empty or have a record,", "7 is none", () -> new PlainWire() {
                    @Override
                    int emptySlot() {
                        return super.emptySlot() == 7 ? -1 : super.emptySlot();
                    }
                }),
                terms("of which bytes may be changed.", "not those of the tag", () -> new PlainWire() {
                    @Override
                    public boolean corrupt(int slot, int i, int b) {
                        return i >= sizeOf(slot) - 16 || super.corrupt(slot, i, b);
                    }
                }),
                terms("THE OUTBOX takes bytes till a record is sent;", "open empties it",
                        () -> new PlainWire() {
                    @Override
                    public void open() {
                        super.open();
                        outbox = new byte[0];
                    }
                }),
                terms("THE INBOX has the latest text that was taken.", "not an empty one",
                        () -> new PlainWire() {
                    @Override
                    void take(byte[] record, int d) {
                        byte[] before = inbox;
                        super.take(record, d);
                        inbox = inbox.length == 0 ? before : inbox;
                    }
                }));
    }

    private static List<Broken> newAndInit() {
        return List.of(
                promise(1, "As behind init().", "a byte in the outbox", () -> new PlainWire() {
                    {
                        putInOutbox(1);
                    }
                }),
                promise(2, "All empty,", "the last slot stays", () -> new PlainWire() {
                    @Override
                    public void init() {
                        byte[] last = slots[7];
                        super.init();
                        slots[7] = last;
                    }
                }),
                promise(2, "All empty,", "the outbox stays", () -> new PlainWire() {
                    @Override
                    public void init() {
                        byte[] before = outbox;
                        super.init();
                        outbox = before;
                    }
                }),
                promise(2, "All empty,", "the inbox stays", () -> new PlainWire() {
                    @Override
                    public void init() {
                        byte[] before = inbox;
                        super.init();
                        inbox = before;
                    }
                }),
                promise(2, "All empty,", "the next numbers stay", () -> new PlainWire() {
                    @Override
                    public void init() {
                        long[] before = next;
                        super.init();
                        next = before;
                    }
                }),
                promise(2, "All empty,", "the windows stay", () -> new PlainWire() {
                    @Override
                    public void init() {
                        TreeSet<BigInteger>[] before = seen;
                        super.init();
                        seen = before;
                    }
                }),
                promise(2, "All empty,", "the epochs stay", () -> new PlainWire() {
                    @Override
                    public void init() {
                        int[] before = epochs;
                        super.init();
                        epochs = before;
                    }
                }),
                promise(2, "the shared key 0,", "it stays", () -> new PlainWire() {
                    @Override
                    public void init() {
                        byte[] before = sharedKey;
                        super.init();
                        sharedKey = before;
                    }
                }),
                promise(2, "closed.", "it stays open", () -> new PlainWire() {
                    @Override
                    public void init() {
                        boolean before = opened;
                        super.init();
                        if (before) {
                            open();
                        }
                    }
                }));
    }

    private static List<Broken> setPskAndOpen() {
        return List.of(
                promise(3, "Byte i of the shared key:", "not the last", () -> new PlainWire() {
                    @Override
                    public boolean setPsk(int i, int b) {
                        return i != 31 && super.setPsk(i, b);
                    }
                }),
                promise(3, "Byte i of the shared key:", "not 0", () -> new PlainWire() {
                    @Override
                    public boolean setPsk(int i, int b) {
                        return b != 0 && super.setPsk(i, b);
                    }
                }),
                promise(3, NO_PLACE, "32 is one", () -> new PlainWire() {
                    @Override
                    public boolean setPsk(int i, int b) {
                        return i == 32 && !opened || super.setPsk(i, b);
                    }
                }),
                promise(3, NO_PLACE, "below 0 it sets the first", () -> new PlainWire() {
                    @Override
                    public boolean setPsk(int i, int b) {
                        boolean done = super.setPsk(i < 0 ? 0 : i, b);
                        return done && i >= 0;
                    }
                }),
                promise(3, "b is not 0 .. 255,", "256 is 0", () -> new PlainWire() {
                    @Override
                    public boolean setPsk(int i, int b) {
                        return super.setPsk(i, b == 256 ? 0 : b);
                    }
                }),
                promise(3, "b is not 0 .. 255,", "-1 sets 255", () -> new PlainWire() {
                    @Override
                    public boolean setPsk(int i, int b) {
                        boolean done = super.setPsk(i, b == -1 ? 255 : b);
                        return done && b >= 0;
                    }
                }),
                promise(3, "or the channel is open.", "true", () -> new PlainWire() {
                    @Override
                    public boolean setPsk(int i, int b) {
                        return opened && i >= 0 && i < 32 || super.setPsk(i, b);
                    }
                }),
                promise(3, "or the channel is open.", "once open, for ever", () -> new PlainWire() {
                    private boolean once;

                    @Override
                    public void open() {
                        super.open();
                        once = true;
                    }

                    @Override
                    public boolean setPsk(int i, int b) {
                        return !once && super.setPsk(i, b);
                    }
                }),
                promise(4, "The channel is opened;", "and the outbox emptied", () -> new PlainWire() {
                    @Override
                    public void open() {
                        super.open();
                        outbox = new byte[0];
                    }
                }),
                promise(4, "The channel is opened;", "only once", () -> new PlainWire() {
                    private boolean once;

                    @Override
                    public void open() {
                        if (!once) {
                            super.open();
                        }
                        once = true;
                    }
                }),
                promise(4, "on an open one nothing changes.", "numbers start again",
                        () -> new PlainWire() {
                    @Override
                    public void open() {
                        super.open();
                        next = new long[2];
                    }
                }),
                promise(4, "on an open one nothing changes.", "the windows are forgotten",
                        () -> new PlainWire() {
                    @Override
                    public void open() {
                        super.open();
                        seen[0].clear();
                        seen[1].clear();
                    }
                }));
    }

    private static List<Broken> put() {
        return List.of(
                promise(5, "A byte more in the outbox:", "not 255", () -> new PlainWire() {
                    @Override
                    public boolean put(int b) {
                        return b != 255 && super.put(b);
                    }
                }),
                promise(5, "A byte more in the outbox:", "not while closed", () -> new PlainWire() {
                    @Override
                    public boolean put(int b) {
                        return opened && super.put(b);
                    }
                }),
                promise(5, "false if it is not 0 .. 255,", "256 is 0", () -> new PlainWire() {
                    @Override
                    public boolean put(int b) {
                        return super.put(b == 256 ? 0 : b);
                    }
                }),
                promise(5, "false if it is not 0 .. 255,", "-1 empties it", () -> new PlainWire() {
                    @Override
                    public boolean put(int b) {
                        outbox = b == -1 ? new byte[0] : outbox;
                        return super.put(b);
                    }
                }),
                promise(5, "or there are 96.", "95", () -> new PlainWire() {
                    @Override
                    public boolean put(int b) {
                        return outbox.length < 95 && super.put(b);
                    }
                }),
                promise(5, "or there are 96.", "the last one changes", () -> new PlainWire() {
                    @Override
                    public boolean put(int b) {
                        if (outbox.length == 96) {
                            outbox[95] = (byte) b;
                        }
                        return super.put(b);
                    }
                }));
    }

    private static List<Broken> send() {
        return List.of(
                promise(6, INTO_SLOT, "no empty outbox", () -> new PlainWire() {
                    @Override
                    public int send(int side) {
                        return outbox.length == 0 ? -1 : super.send(side);
                    }
                }),
                promise(6, INTO_SLOT, "95 bytes of it", () -> new PlainWire() {
                    @Override
                    public int send(int side) {
                        outbox = Arrays.copyOf(outbox, Math.min(95, outbox.length));
                        return super.send(side);
                    }
                }),
                promise(6, INTO_SLOT, "the last empty slot", () -> new PlainWire() {
                    @Override
                    int emptySlot() {
                        return Arrays.asList(slots).lastIndexOf(null);
                    }
                }),
                promise(6, "(then it is empty,", "it stays", () -> new PlainWire() {
                    @Override
                    public int send(int side) {
                        byte[] before = outbox;
                        int slot = super.send(side);
                        outbox = before;
                        return slot;
                    }
                }),
                promise(6, "and the next number one more):", "that of both", () -> new PlainWire() {
                    @Override
                    public int send(int side) {
                        int slot = super.send(side);
                        next[1 - (side & 1)] += slot >= 0 ? 1 : 0;
                        return slot;
                    }
                }),
                promise(6, "the slot;", "0", () -> new PlainWire() {
                    @Override
                    public int send(int side) {
                        return Math.min(0, super.send(side));
                    }
                }),
                promise(6, "-1 no such side,", "2 is 0", () -> new PlainWire() {
                    @Override
                    public int send(int side) {
                        return super.send(side == 2 ? 0 : side);
                    }
                }),
                promise(6, "-1 no such side,", "-2 first", () -> new PlainWire() {
                    @Override
                    public int send(int side) {
                        return emptySlot() < 0 ? -2 : super.send(side);
                    }
                }),
                promise(6, "or closed;", "the outbox is emptied", () -> new PlainWire() {
                    @Override
                    public int send(int side) {
                        outbox = opened ? outbox : new byte[0];
                        return super.send(side);
                    }
                }),
                promise(6, NO_SLOT, "the next number is one more", () -> new PlainWire() {
                    @Override
                    public int send(int side) {
                        int slot = super.send(side);
                        if (slot == -2) {
                            next[side]++;
                        }
                        return slot;
                    }
                }),
                promise(6, NO_SLOT, "-1", () -> new PlainWire() {
                    @Override
                    public int send(int side) {
                        return Math.max(-1, super.send(side));
                    }
                }),
                promise(6, NO_SLOT, "the outbox is emptied", () -> new PlainWire() {
                    @Override
                    public int send(int side) {
                        int slot = super.send(side);
                        outbox = slot == -2 ? new byte[0] : outbox;
                        return slot;
                    }
                }));
    }

    private static List<Broken> deliver() {
        return List.of(
                promise(7, "A slot's record comes to a side", "not from slot 7",
                        () -> new PlainWire() {
                    @Override
                    public int deliver(int slot, int side) {
                        return slot == 7 ? 1 : super.deliver(slot, side);
                    }
                }),
                promise(7, "(the slot stays):", "empty when taken", () -> new PlainWire() {
                    @Override
                    public int deliver(int slot, int side) {
                        int verdict = super.deliver(slot, side);
                        if (verdict == 0) {
                            slots[slot] = null;
                        }
                        return verdict;
                    }
                }),
                promise(7, "0 it is taken: the inbox has its text,", "95 bytes of it",
                        () -> new PlainWire() {
                    @Override
                    void take(byte[] record, int d) {
                        super.take(record, d);
                        inbox = Arrays.copyOf(inbox, Math.min(95, inbox.length));
                    }
                }),
                promise(7, "its number is seen;", "it is not", () -> new PlainWire() {
                    @Override
                    void take(byte[] record, int d) {
                        super.take(record, d);
                        seen[d].remove(numberOf(record));
                    }
                }),
                promise(7, "1 no such slot or side,", "8 is 0", () -> new PlainWire() {
                    @Override
                    public int deliver(int slot, int side) {
                        return super.deliver(slot == 8 ? 0 : slot, side);
                    }
                }),
                promise(7, "1 no such slot or side,", "2 is 0", () -> new PlainWire() {
                    @Override
                    public int deliver(int slot, int side) {
                        return super.deliver(slot, side == 2 ? 0 : side);
                    }
                }),
                promise(7, "closed,", "2", () -> new PlainWire() {
                    @Override
                    public int deliver(int slot, int side) {
                        return opened ? super.deliver(slot, side) : 2;
                    }
                }),
                promise(7, "or an empty slot;", "2", () -> new PlainWire() {
                    @Override
                    public int deliver(int slot, int side) {
                        return sizeOf(slot) == 0 ? 2 : super.deliver(slot, side);
                    }
                }));
    }

    private static List<Broken> elseNothingChanges() {
        List<Broken> all = new ArrayList<>();
        for (int answer = 1; answer <= 6; answer++) {
            int broken = answer;
            all.add(promise(7, "else nothing changes:", "the inbox is emptied at " + broken,
                    () -> new PlainWire() {
                @Override
                public int deliver(int slot, int side) {
                    int verdict = super.deliver(slot, side);
                    inbox = verdict == broken ? new byte[0] : inbox;
                    return verdict;
                }
            }));
        }
        for (int answer = 2; answer <= 4; answer++) {
            int broken = answer;
            all.add(promise(7, "else nothing changes:", "the number is seen at " + broken,
                    () -> new PlainWire() {
                @Override
                int verdict(byte[] record, int d) {
                    int verdict = super.verdict(record, d);
                    if (verdict == broken) {
                        seen[d].add(numberOf(record));
                    }
                    return verdict;
                }
            }));
        }
        all.add(promise(7, "else nothing changes:", "the window goes back at 5",
                () -> new PlainWire() {
            @Override
            int verdict(byte[] record, int d) {
                int verdict = super.verdict(record, d);
                if (verdict == 5) {
                    seen[d].clear();
                }
                return verdict;
            }
        }));
        return all;
    }

    private static List<Broken> order() {
        return List.of(
                promise(7, FIRST, "2 before 1", () -> new PlainWire() {
                    @Override
                    public int deliver(int slot, int side) {
                        boolean none = sizeOf(slot) > 0 && (slots[slot][0] & 255) > 1;
                        return none ? 2 : super.deliver(slot, side);
                    }
                }),
                promise(7, FIRST, "3 before 2", () -> new PlainWire() {
                    @Override
                    int verdict(byte[] record, int d) {
                        int verdict = super.verdict(record, d);
                        return verdict == 2 && !isOfEpoch(record, d) ? 3 : verdict;
                    }
                }),
                promise(7, FIRST, "4 before 3", () -> new PlainWire() {
                    @Override
                    int verdict(byte[] record, int d) {
                        int verdict = super.verdict(record, d);
                        return verdict == 3 && !hasRightTag(record, d) ? 4 : verdict;
                    }
                }),
                promise(7, FIRST, "5 before 4", () -> new PlainWire() {
                    @Override
                    int verdict(byte[] record, int d) {
                        int verdict = super.verdict(record, d);
                        return verdict == 4 && isTooOld(numberOf(record), d) ? 5 : verdict;
                    }
                }),
                promise(7, FIRST, "6 before 4", () -> new PlainWire() {
                    @Override
                    int verdict(byte[] record, int d) {
                        int verdict = super.verdict(record, d);
                        return verdict == 4 && seen[d].contains(numberOf(record)) ? 6 : verdict;
                    }
                }),
                promise(7, FIRST, "6 before 5", () -> new PlainWire() {
                    @Override
                    int verdict(byte[] record, int d) {
                        int verdict = super.verdict(record, d);
                        return verdict == 5 && seen[d].contains(numberOf(record)) ? 6 : verdict;
                    }
                }));
    }

    private static List<Broken> verdicts() {
        return List.of(
                promise(7, NO_DIRECTION, "to any side", () -> new PlainWire() {
                    @Override
                    int verdict(byte[] record, int d) {
                        return super.verdict(record, record[0] == 1 - d ? 1 - d : d);
                    }
                }),
                promise(7, NO_DIRECTION, "its lowest bit alone", () -> new PlainWire() {
                    @Override
                    int verdict(byte[] record, int d) {
                        byte[] bit = record.clone();
                        bit[0] &= 1;
                        return super.verdict(bit, d);
                    }
                }),
                promise(7, "or its length is above 96,", "4", () -> new PlainWire() {
                    @Override
                    int verdict(byte[] record, int d) {
                        boolean tooLong = record[0] == d && lengthOf(record) > 96;
                        return tooLong ? 4 : super.verdict(record, d);
                    }
                }),
                promise(7, "or not that of the slot's bytes;", "one less will do",
                        () -> new PlainWire() {
                    @Override
                    boolean hasRightLength(byte[] record) {
                        int less = record.length - 31 - lengthOf(record);
                        return less == 1 || super.hasRightLength(record);
                    }
                }),
                promise(7, "3 another epoch than the direction's;", "its lowest byte alone",
                        () -> new PlainWire() {
                    @Override
                    boolean isOfEpoch(byte[] record, int d) {
                        return record[4] == (byte) epochs[d];
                    }
                }),
                promise(7, "3 another epoch than the direction's;", "one before will do",
                        () -> new PlainWire() {
                    @Override
                    boolean isOfEpoch(byte[] record, int d) {
                        return record[4] == epochs[d] - 1 || super.isOfEpoch(record, d);
                    }
                }),
                promise(7, "4 a wrong tag;", "15 bytes of it", () -> new PlainWire() {
                    @Override
                    boolean hasRightTag(byte[] record, int d) {
                        int last = record.length - 1;
                        byte[] right = Spec.tagged(keys[d], Arrays.copyOf(record, last - 15));
                        return Arrays.equals(record, 0, last, right, 0, last);
                    }
                }),
                promise(7, "4 a wrong tag;", "that of the other direction will do",
                        () -> new PlainWire() {
                    @Override
                    boolean hasRightTag(byte[] record, int d) {
                        return super.hasRightTag(record, d) || super.hasRightTag(record, 1 - d);
                    }
                }),
                promise(7, "5 its number is 64 or more below the greatest seen;", "65",
                        () -> new PlainWire() {
                    @Override
                    BigInteger lowest(int d) {
                        return super.lowest(d).subtract(BigInteger.ONE);
                    }
                }),
                promise(7, "6 it was seen.", "the greatest alone", () -> new PlainWire() {
                    @Override
                    int verdict(byte[] record, int d) {
                        int verdict = super.verdict(record, d);
                        boolean below = verdict == 6 && !numberOf(record).equals(seen[d].last());
                        return below ? 0 : verdict;
                    }
                }),
                promise(7, "(Numbers go without sign.)", "with it", () -> new PlainWire() {
                    @Override
                    int verdict(byte[] record, int d) {
                        TreeSet<BigInteger> before = seen[d];
                        seen[d] = new TreeSet<>();
                        for (BigInteger number : before) {
                            seen[d].add(BigInteger.valueOf(number.longValue()));
                        }
                        int verdict = super.verdict(record, d);
                        long number = numberOf(record).longValue();
                        if (verdict >= 5 || verdict == 0) {
                            BigInteger signed = BigInteger.valueOf(number);
                            boolean old = isTooOld(signed, d);
                            verdict = old ? 5 : seen[d].contains(signed) ? 6 : 0;
                        }
                        seen[d] = before;
                        return verdict;
                    }
                }),
                promise(7, "(Numbers go without sign.)", "the window goes round below 0",
                        () -> new PlainWire() {
                    @Override
                    void take(byte[] record, int d) {
                        long below = greatest(d) - numberOf(record).longValue();
                        boolean inWindow = !seen[d].isEmpty() && below >= 0 && below < 64;
                        BigInteger before = seen[d].isEmpty() ? null : seen[d].last();
                        super.take(record, d);
                        if (inWindow) {
                            seen[d].tailSet(before, false).clear();
                        }
                    }
                }));
    }

    private static List<Broken> got() {
        return List.of(
                promise(8, "Byte i of the inbox;", "with its sign", () -> new PlainWire() {
                    @Override
                    public int got(int i) {
                        return (byte) super.got(i);
                    }
                }),
                promise(8, "-1 if there is none.", "0", () -> new PlainWire() {
                    @Override
                    public int got(int i) {
                        return i >= inbox.length || i < 0 ? 0 : super.got(i);
                    }
                }),
                promise(9, "How many bytes the inbox has.", "what the longest had",
                        () -> new PlainWire() {
                    private int longest;

                    @Override
                    public int gotLen() {
                        longest = Math.max(longest, super.gotLen());
                        return longest;
                    }
                }));
    }

    private static List<Broken> corrupt() {
        return List.of(
                promise(10, "Byte i of a slot becomes b:", "not the last", () -> new PlainWire() {
                    @Override
                    public boolean corrupt(int slot, int i, int b) {
                        return i != sizeOf(slot) - 1 && super.corrupt(slot, i, b);
                    }
                }),
                promise(10, "Byte i of a slot becomes b:", "not what it was", () -> new PlainWire() {
                    @Override
                    public boolean corrupt(int slot, int i, int b) {
                        return wireAt(slot, i) != b && super.corrupt(slot, i, b);
                    }
                }),
                promise(10, "false if there is none,", "8 is 0", () -> new PlainWire() {
                    @Override
                    public boolean corrupt(int slot, int i, int b) {
                        return super.corrupt(slot == 8 ? 0 : slot, i, b);
                    }
                }),
                promise(10, "false if there is none,", "an empty slot gets a record",
                        () -> new PlainWire() {
                    @Override
                    public boolean corrupt(int slot, int i, int b) {
                        if (slot >= 0 && slot < 8 && slots[slot] == null) {
                            slots[slot] = new byte[31];
                            return false;
                        }
                        return super.corrupt(slot, i, b);
                    }
                }),
                promise(10, "false if there is none,", "behind the last the last",
                        () -> new PlainWire() {
                    @Override
                    public boolean corrupt(int slot, int i, int b) {
                        super.corrupt(slot, Math.min(i, sizeOf(slot) - 1), b);
                        return i < sizeOf(slot) && super.corrupt(slot, i, b);
                    }
                }),
                promise(10, "or b is not 0 .. 255.", "256 is 0", () -> new PlainWire() {
                    @Override
                    public boolean corrupt(int slot, int i, int b) {
                        return super.corrupt(slot, i, b == 256 ? 0 : b);
                    }
                }),
                promise(10, "or b is not 0 .. 255.", "it becomes 255", () -> new PlainWire() {
                    @Override
                    public boolean corrupt(int slot, int i, int b) {
                        boolean done = super.corrupt(slot, i, b == -1 ? 255 : b);
                        return done && b >= 0;
                    }
                }));
    }

    private static List<Broken> drop() {
        return List.of(
                promise(11, "A slot is empty then:", "and the one behind it", () -> new PlainWire() {
                    @Override
                    public boolean drop(int slot) {
                        boolean done = super.drop(slot);
                        super.drop(done ? slot + 1 : -1);
                        return done;
                    }
                }),
                promise(11, "A slot is empty then:", "and takes no record", () -> new PlainWire() {
                    @Override
                    public boolean drop(int slot) {
                        boolean done = super.drop(slot);
                        if (done) {
                            slots[slot] = new byte[0];
                        }
                        return done;
                    }
                }),
                promise(11, "false if it was.", "true", () -> new PlainWire() {
                    @Override
                    public boolean drop(int slot) {
                        return super.drop(slot) || slot >= 0 && slot < 8;
                    }
                }),
                promise(11, "false if it was.", "8 is 7", () -> new PlainWire() {
                    @Override
                    public boolean drop(int slot) {
                        return super.drop(slot == 8 ? 7 : slot);
                    }
                }));
    }

    private static List<Broken> rekey() {
        return List.of(
                promise(12, "The direction from a side goes on:", "that to it",
                        () -> new PlainWire() {
                    @Override
                    public int rekey(int side) {
                        return super.rekey(1 - side);
                    }
                }),
                promise(12, "The direction from a side goes on:", "the inbox is emptied",
                        () -> new PlainWire() {
                    @Override
                    void goOn(int d) {
                        super.goOn(d);
                        inbox = new byte[0];
                    }
                }),
                promise(12, "its epoch;", "the one before", () -> new PlainWire() {
                    @Override
                    public int rekey(int side) {
                        int epoch = super.rekey(side);
                        return epoch > 0 ? epoch - 1 : epoch;
                    }
                }),
                promise(12, "-1 no such side,", "2 is 0", () -> new PlainWire() {
                    @Override
                    public int rekey(int side) {
                        return super.rekey(side == 2 ? 0 : side);
                    }
                }),
                promise(12, "-1 no such side,", "both go on", () -> new PlainWire() {
                    @Override
                    public int rekey(int side) {
                        if (opened && side == 2) {
                            goOn(0);
                            goOn(1);
                        }
                        return super.rekey(side);
                    }
                }),
                promise(12, "or closed.", "the epoch goes on", () -> new PlainWire() {
                    @Override
                    public int rekey(int side) {
                        if (!opened && (side & 1) == side) {
                            epochs[side]++;
                        }
                        return super.rekey(side);
                    }
                }));
    }

    private static List<Broken> wireAt() {
        return List.of(
                promise(13, "Byte i of a slot;", "with its sign", () -> new PlainWire() {
                    @Override
                    public int wireAt(int slot, int i) {
                        return (byte) super.wireAt(slot, i);
                    }
                }),
                promise(13, "-1 if there is none.", "behind the last 0", () -> new PlainWire() {
                    @Override
                    public int wireAt(int slot, int i) {
                        boolean behind = sizeOf(slot) > 0 && i >= sizeOf(slot);
                        return behind ? 0 : super.wireAt(slot, i);
                    }
                }),
                promise(13, "-1 if there is none.", "8 is 7", () -> new PlainWire() {
                    @Override
                    public int wireAt(int slot, int i) {
                        return super.wireAt(slot == 8 ? 7 : slot, i);
                    }
                }));
    }

    private static List<Broken> count() {
        return List.of(
                promise(14, "How many: what = 0 slots with records,", "7 at most",
                        () -> new PlainWire() {
                    @Override
                    public int count(int what) {
                        return what == 0 ? Math.min(7, super.count(0)) : super.count(what);
                    }
                }),
                promise(14, "1 bytes in the outbox,", "95 at most", () -> new PlainWire() {
                    @Override
                    public int count(int what) {
                        return what == 1 ? Math.min(95, super.count(1)) : super.count(what);
                    }
                }),
                promise(14, "2 and 3 the epochs of both directions (-1 closed),", "0 closed",
                        () -> new PlainWire() {
                    @Override
                    public int count(int what) {
                        return what == 3 && !opened ? 0 : super.count(what);
                    }
                }),
                promise(14, "2 and 3 the epochs of both directions (-1 closed),", "swapped",
                        () -> new PlainWire() {
                    @Override
                    public int count(int what) {
                        return super.count(what == 2 ? 3 : what == 3 ? 2 : what);
                    }
                }),
                promise(14, "4 and 5 how many of the window's numbers were seen;",
                        "all that ever were", () -> new PlainWire() {
                    @Override
                    public int count(int what) {
                        return what == 4 || what == 5 ? seen[what - 4].size() : super.count(what);
                    }
                }),
                promise(14, "-1 for another what.", "0", () -> new PlainWire() {
                    @Override
                    public int count(int what) {
                        return what == 6 ? 0 : super.count(what);
                    }
                }));
    }
}
