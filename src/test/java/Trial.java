import java.util.List;
import java.util.function.Consumer;
import java.util.function.Supplier;

/** A sentence's test while it runs: makes the wires, and holds answers against those due. */
final class Trial {
    private final String sentence;
    private final Supplier<Wire> maker;
    private final Due due;
    private ToldWire latest;

    Trial(String sentence, Supplier<Wire> maker, Due due) {
        this.sentence = sentence;
        this.maker = maker;
        this.due = due;
    }

    Wire fresh() {
        latest = new ToldWire(maker.get());
        return latest;
    }

    Wire opened() {
        return openedWith(Wires.ZERO_KEY);
    }

    Wire openedWith(byte[] sharedKey) {
        Wire wire = fresh();
        Wires.setKey(wire, sharedKey);
        wire.open();
        return wire;
    }

    /** A wire that has been through this. */
    Wire after(Consumer<Wire> before) {
        Wire wire = fresh();
        before.accept(wire);
        return wire;
    }

    /** What is due, and what the latest call on the latest wire answered. */
    void due(long want, long got) {
        due.is(sentence + latest.latest(), got, want);
    }

    void due(boolean want, boolean got) {
        due.is(sentence + latest.latest(), got, want);
    }

    void slotIs(byte[] want, Wire wire, int slot) {
        bytesAre(want, 0, wire, slot);
        due(-1, wire.wireAt(slot, want.length));
    }

    /** The bytes of a slot from a place on. */
    void bytesAre(byte[] want, int from, Wire wire, int slot) {
        for (int i = 0; i < want.length; i++) {
            due(want[i] & 255, wire.wireAt(slot, from + i));
        }
    }

    void slotIsEmpty(Wire wire, int slot) {
        due(-1, wire.wireAt(slot, 0));
        due(1, wire.deliver(slot, 0));
        due(1, wire.deliver(slot, 1));
        due(false, wire.corrupt(slot, 0, 0));
    }

    void inboxIs(byte[] want, Wire wire) {
        due(want.length, wire.gotLen());
        for (int i = 0; i < want.length; i++) {
            due(want[i] & 255, wire.got(i));
        }
        due(-1, wire.got(want.length));
    }

    void countsAre(Wire wire, int... want) {
        for (int what = 0; what < want.length; what++) {
            due(want[what], wire.count(what));
        }
    }

    /** Whatever comes later, a wire answers as if the refused calls had never been made. */
    void changesNothing(Consumer<Wire> before, Consumer<Wire> refused) {
        alike(before, before.andThen(refused));
    }

    /** Two wires answer whatever comes later alike. */
    void alike(Consumer<Wire> one, Consumer<Wire> other) {
        for (Consumer<Wire> later : Later.ALL) {
            List<ToldWire.Told> want = told(one, later);
            List<ToldWire.Told> got = told(other, later);
            for (int i = 0; i < want.size() && i < got.size(); i++) {
                due.is(sentence + "later " + got.get(i).call(),
                        got.get(i).answer(), want.get(i).answer());
            }
        }
    }

    private List<ToldWire.Told> told(Consumer<Wire> before, Consumer<Wire> later) {
        ToldWire wire = new ToldWire(maker.get());
        before.accept(wire);
        int from = wire.told().size();
        later.accept(wire);
        return wire.told().subList(from, wire.told().size());
    }
}
