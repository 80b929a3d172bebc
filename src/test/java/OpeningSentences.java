import java.util.List;

/** The sentences of the promises 1 to 4: a new object, init, setPsk and open. */
final class OpeningSentences {
    private OpeningSentences() {
    }

    static List<Sentence> all() {
        return List.of(
                Sentence.promise(1, "As behind init().", "what it shows at once",
                        OpeningSentences::newObject),
                Sentence.promise(1, "As behind init().", "what later calls show",
                        OpeningSentences::newObjectLater),
                Sentence.promise(2, "All empty,", "the slots", OpeningSentences::initEmptiesSlots),
                Sentence.promise(2, "All empty,", "the outbox", OpeningSentences::initEmptiesOutbox),
                Sentence.promise(2, "All empty,", "the inbox", OpeningSentences::initEmptiesInbox),
                Sentence.promise(2, "All empty,", "epochs, numbers and windows",
                        OpeningSentences::initForgetsDirections),
                Sentence.promise(2, "All empty,", "full, closed, new, and twice",
                        OpeningSentences::initFromAnywhere),
                Sentence.promise(2, "the shared key 0,", "set before and not used",
                        OpeningSentences::initClearsUnusedKey),
                Sentence.promise(2, "the shared key 0,", "set before and used",
                        OpeningSentences::initClearsUsedKey),
                Sentence.promise(2, "closed.", "from an open one", OpeningSentences::initCloses),
                Sentence.promise(3, "Byte i of the shared key:", "the first and the last place",
                        OpeningSentences::setPskFirstAndLast),
                Sentence.promise(3, "Byte i of the shared key:", "0 and 255, and set again",
                        OpeningSentences::setPskSmallestAndGreatest),
                Sentence.promise(3, "false (and nothing changes) if there is no such place,",
                        "below 0, 32 and far off", OpeningSentences::setPskNoPlace),
                Sentence.promise(3, "b is not 0 .. 255,", "-1, 256 and far off",
                        OpeningSentences::setPskNoByte),
                Sentence.promise(3, "or the channel is open.", "any place, any byte",
                        OpeningSentences::setPskOpen),
                Sentence.promise(3, "or the channel is open.", "until init",
                        OpeningSentences::setPskUntilInit),
                Sentence.promise(4, "The channel is opened;", "a closed one",
                        OpeningSentences::openClosed),
                Sentence.promise(4, "The channel is opened;", "one closed by init",
                        OpeningSentences::openAfterInit),
                Sentence.promise(4, "on an open one nothing changes.", "just opened",
                        OpeningSentences::openTwice),
                Sentence.promise(4, "on an open one nothing changes.", "in use",
                        OpeningSentences::openInUse));
    }

    private static void newObject(Trial t) {
        Wire wire = t.fresh();
        t.countsAre(wire, 0, 0, -1, -1, 0, 0);
        t.inboxIs(Wires.NO_TEXT, wire);
        for (int slot = 0; slot < 8; slot++) {
            t.slotIsEmpty(wire, slot);
        }
        t.due(-1, wire.send(0));
        t.due(-1, wire.rekey(0));
        t.due(true, wire.setPsk(0, 0));
    }

    private static void newObjectLater(Trial t) {
        t.alike(wire -> {
            Wires.busy(wire);
            wire.init();
        }, wire -> { });
    }

    private static void initEmptiesSlots(Trial t) {
        Wire wire = t.after(Wires::full);
        wire.init();
        t.due(0, wire.count(0));
        for (int slot = 0; slot < 8; slot++) {
            t.slotIsEmpty(wire, slot);
            t.due(false, wire.drop(slot));
        }
        wire.open();
        for (int slot = 0; slot < 8; slot++) {
            t.slotIsEmpty(wire, slot);
            t.due(slot, wire.send(0));
        }
    }

    private static void initEmptiesOutbox(Trial t) {
        Wire wire = t.opened();
        Wires.putText(wire, Wires.text(96, 1));
        wire.init();
        t.due(0, wire.count(1));
        t.due(true, wire.put(5));
        t.due(1, wire.count(1));
        wire.open();
        wire.send(0);
        t.slotIs(Wires.record(Wires.ZERO_KEY, 0, 0, 0, new byte[] {5}), wire, 0);
    }

    private static void initEmptiesInbox(Trial t) {
        Wire wire = t.after(Wires::busy);
        t.due(2, wire.gotLen());
        wire.init();
        t.inboxIs(Wires.NO_TEXT, wire);
        t.due(-1, wire.got(1));
    }

    private static void initForgetsDirections(Trial t) {
        Wire wire = t.after(Wires::full);
        wire.rekey(0);
        wire.send(1);
        wire.init();
        t.countsAre(wire, 0, 0, -1, -1, 0, 0);
        wire.open();
        t.countsAre(wire, 0, 0, 0, 0, 0, 0);
        for (int side = 0; side < 2; side++) {
            t.due(side, wire.send(side));
            t.slotIs(Wires.record(Wires.ZERO_KEY, side, 0, 0, Wires.NO_TEXT), wire, side);
            t.due(0, wire.deliver(side, 1 - side));
        }
    }

    private static void initFromAnywhere(Trial t) {
        t.alike(wire -> { }, wire -> {
            Wires.full(wire);
            wire.init();
        });
        t.alike(wire -> { }, wire -> {
            Wires.closed(wire);
            wire.init();
        });
        t.alike(wire -> { }, Wire::init);
        t.alike(wire -> { }, wire -> {
            Wires.busy(wire);
            wire.init();
            wire.init();
        });
    }

    private static void initClearsUnusedKey(Trial t) {
        Wire wire = t.fresh();
        for (int i = 0; i < 32; i++) {
            wire.setPsk(i, 255 - i);
        }
        wire.init();
        wire.open();
        wire.send(1);
        t.slotIs(Wires.record(new byte[32], 1, 0, 0, Wires.NO_TEXT), wire, 0);
    }

    private static void initClearsUsedKey(Trial t) {
        Wire wire = t.openedWith(Wires.text(32, 3));
        wire.send(0);
        wire.init();
        wire.setPsk(5, 5);
        byte[] key = new byte[32];
        key[5] = 5;
        wire.open();
        wire.send(0);
        t.slotIs(Wires.record(key, 0, 0, 0, Wires.NO_TEXT), wire, 0);
    }

    private static void initCloses(Trial t) {
        Wire wire = t.after(Wires::busy);
        wire.init();
        t.due(-1, wire.count(2));
        t.due(-1, wire.count(3));
        for (int side = 0; side < 2; side++) {
            t.due(-1, wire.send(side));
            t.due(-1, wire.rekey(side));
            t.due(1, wire.deliver(0, side));
        }
        t.due(true, wire.setPsk(0, 1));
    }

    private static void setPskFirstAndLast(Trial t) {
        byte[] key = new byte[32];
        key[0] = 1;
        key[31] = 2;
        Wire wire = t.fresh();
        t.due(true, wire.setPsk(0, 1));
        t.due(true, wire.setPsk(31, 2));
        keyIs(t, key, wire);
    }

    private static void setPskSmallestAndGreatest(Trial t) {
        byte[] key = new byte[32];
        key[3] = (byte) 255;
        key[5] = 7;
        Wire wire = t.fresh();
        t.due(true, wire.setPsk(3, 255));
        t.due(true, wire.setPsk(4, 255));
        t.due(true, wire.setPsk(4, 0));
        t.due(true, wire.setPsk(5, 0));
        t.due(true, wire.setPsk(5, 7));
        keyIs(t, key, wire);
    }

    private static void setPskNoPlace(Trial t) {
        Wire wire = t.after(Wires::closed);
        for (int i : Wires.NO_PLACES) {
            t.due(false, wire.setPsk(i, 0));
            t.due(false, wire.setPsk(i, 7));
        }
        keyIs(t, Wires.SCENE_KEY, wire);
        t.changesNothing(Wires::closed, other -> {
            for (int i : Wires.NO_PLACES) {
                other.setPsk(i, 7);
            }
        });
    }

    private static void setPskNoByte(Trial t) {
        Wire wire = t.after(Wires::closed);
        for (int b : Wires.NO_BYTES) {
            t.due(false, wire.setPsk(0, b));
            t.due(false, wire.setPsk(15, b));
            t.due(false, wire.setPsk(31, b));
        }
        keyIs(t, Wires.SCENE_KEY, wire);
        t.changesNothing(Wires::closed, other -> {
            for (int b : Wires.NO_BYTES) {
                other.setPsk(0, b);
                other.setPsk(31, b);
            }
        });
    }

    private static void setPskOpen(Trial t) {
        Wire wire = t.after(Wires::busy);
        for (int i = -1; i <= 32; i++) {
            t.due(false, wire.setPsk(i, 1));
        }
        t.due(false, wire.setPsk(0, Wires.SCENE_KEY[0]));
        t.changesNothing(Wires::busy, other -> {
            other.setPsk(0, 1);
            other.setPsk(31, 1);
            other.setPsk(16, 200);
        });
        t.changesNothing(Wire::open, other -> other.setPsk(0, 1));
    }

    private static void setPskUntilInit(Trial t) {
        Wire wire = t.opened();
        t.due(false, wire.setPsk(0, 1));
        wire.rekey(0);
        t.due(false, wire.setPsk(0, 1));
        wire.init();
        t.due(true, wire.setPsk(1, 9));
        // What was refused while it was open is not in the key now.
        byte[] key = new byte[32];
        key[1] = 9;
        keyIs(t, key, wire);
    }

    private static void openClosed(Trial t) {
        Wire wire = t.after(Wires::closed);
        wire.open();
        t.countsAre(wire, 0, 2, 0, 0, 0, 0);
        t.inboxIs(Wires.NO_TEXT, wire);
        t.due(0, wire.send(1));
        t.slotIs(Wires.record(Wires.SCENE_KEY, 1, 0, 0, new byte[] {9, (byte) 200}), wire, 0);
        t.due(0, wire.deliver(0, 0));
        t.due(1, wire.rekey(0));
    }

    private static void openAfterInit(Trial t) {
        Wire wire = t.after(Wires::busy);
        wire.init();
        wire.open();
        t.countsAre(wire, 0, 0, 0, 0, 0, 0);
        t.due(0, wire.send(0));
        t.due(0, wire.deliver(0, 1));
    }

    private static void openTwice(Trial t) {
        Wire wire = t.opened();
        wire.open();
        t.countsAre(wire, 0, 0, 0, 0, 0, 0);
        wire.send(0);
        wire.open();
        t.due(1, wire.send(0));
        t.slotIs(Wires.record(Wires.ZERO_KEY, 0, 0, 1, Wires.NO_TEXT), wire, 1);
    }

    private static void openInUse(Trial t) {
        t.changesNothing(Wires::busy, Wire::open);
        t.changesNothing(Wires::full, wire -> {
            wire.open();
            wire.open();
        });
    }

    private static void keyIs(Trial t, byte[] key, Wire wire) {
        byte[] text = wire.count(1) == 0 ? Wires.NO_TEXT : new byte[] {9, (byte) 200};
        wire.open();
        wire.send(0);
        t.slotIs(Wires.record(key, 0, 0, 0, text), wire, 0);
    }
}
