import java.util.List;
import java.util.function.Consumer;

/**
 * What later calls can show of a wire's state, part by part: two wires that answer all of this
 * alike are the same to whoever uses them. Each part is for a wire of its own, since it changes it.
 */
final class Later {
    static final List<Consumer<Wire>> ALL = List.of(
            Later::countsAndInbox, Later::slots, Later::deliverAll,
            wire -> fillAndSend(wire, 0), wire -> fillAndSend(wire, 1),
            Later::goOn, Later::openAndSend, Later::initAndSend, Later::setKeyAndSend);

    private static final int LONGEST_RECORD_OF_A_SCENE = 38;

    private Later() {
    }

    private static void countsAndInbox(Wire wire) {
        for (int what = -1; what <= 6; what++) {
            wire.count(what);
        }
        wire.gotLen();
        for (int i = -1; i <= 96; i++) {
            wire.got(i);
        }
    }

    private static void slots(Wire wire) {
        for (int slot = 0; slot < 8; slot++) {
            for (int i = 0; i <= LONGEST_RECORD_OF_A_SCENE; i++) {
                wire.wireAt(slot, i);
            }
        }
    }

    private static void deliverAll(Wire wire) {
        for (int slot = 0; slot < 8; slot++) {
            for (int side = 0; side < 2; side++) {
                wire.deliver(slot, side);
                wire.gotLen();
                wire.got(0);
                wire.got(1);
                wire.count(4);
                wire.count(5);
            }
        }
    }

    private static void fillAndSend(Wire wire, int side) {
        for (int b = 0; b <= 96; b++) {
            wire.put(b);
        }
        wire.drop(0);
        wire.send(side);
        look(wire, 0, 127);
    }

    private static void goOn(Wire wire) {
        for (int side = 0; side < 2; side++) {
            wire.rekey(side);
            wire.drop(side);
            wire.send(side);
            look(wire, side, 33);
        }
    }

    private static void openAndSend(Wire wire) {
        wire.open();
        wire.drop(0);
        wire.drop(1);
        wire.send(0);
        wire.send(1);
        look(wire, 0, 33);
        look(wire, 1, 33);
    }

    private static void initAndSend(Wire wire) {
        wire.init();
        countsAndInbox(wire);
        openAndSend(wire);
    }

    private static void setKeyAndSend(Wire wire) {
        for (int i = 1; i < 31; i++) {
            wire.setPsk(i, i);
        }
        openAndSend(wire);
    }

    private static void look(Wire wire, int slot, int last) {
        for (int i = 0; i <= last; i++) {
            wire.wireAt(slot, i);
        }
    }
}
