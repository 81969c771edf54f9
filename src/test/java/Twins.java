import java.util.ArrayList;
import java.util.List;
import java.util.function.Consumer;

/**
 * Two drivers in the same state. After one of them has had a call that changes
 * nothing, no further calls tell it from the other.
 */
final class Twins {
    private Twins() {
    }

    static void unchangedBy(String call, List<Consumer<RingDriver>> states, Consumer<RingDriver> made) {
        unchangedBut(0, call, states, made);
    }

    /** As above, but for so many faults that the call adds. */
    static void unchangedBut(
            int faultsMore, String call, List<Consumer<RingDriver>> states, Consumer<RingDriver> made) {
        for (int state = 0; state < states.size(); state++) {
            String where = call + " in state " + state + ", then ";
            compare(where + "look ", states.get(state), made, Twins::look, faultsMore);
            compare(where + "boxes ", states.get(state), made, Twins::emptyBoxes, faultsMore);
            compare(where + "doors ", states.get(state), made, Twins::tryDoors, faultsMore);
        }
    }

    private interface Probe {
        void ask(RingDriver driver, List<Integer> answers);
    }

    private static void compare(String where, Consumer<RingDriver> state,
            Consumer<RingDriver> made, Probe probe, int faultsMore) {
        RingDriver one = new RingDriver();
        RingDriver other = new RingDriver();
        state.accept(one);
        state.accept(other);
        made.accept(one);
        Check.due(where + "faults", one.faults(), other.faults() + faultsMore);
        List<Integer> got = new ArrayList<>();
        List<Integer> want = new ArrayList<>();
        probe.ask(one, got);
        probe.ask(other, want);
        for (int i = 0; i < want.size(); i++) {
            Check.due(where + i, got.get(i), want.get(i));
        }
    }

    /** All that can be seen without a change. */
    private static void look(RingDriver driver, List<Integer> answers) {
        answers.add(driver.sending());
        answers.add(driver.receiving());
        for (int i = 0; i < 16; i++) {
            answers.add(driver.taken(i));
        }
        for (int address = 0; address < Card.RECEIVE_BUFFERS; address++) {
            answers.add(driver.deviceRead(address));
        }
    }

    /** The out box as the card sees it in a frame, and every posted receive buffer as the driver takes it. */
    private static void emptyBoxes(RingDriver driver, List<Integer> answers) {
        answers.add(driver.revoke());
        int slot = driver.send(16);
        answers.add(slot);
        for (int i = 0; i < 16; i++) {
            answers.add(driver.deviceRead(Card.TRANSMIT_BUFFERS + 16 * slot + i));
        }
        for (int k = 0; k < 8; k++) {
            Card.deliver(driver, k, 16);
        }
        for (int frame = 0; frame < 8; frame++) {
            answers.add(driver.receive());
            for (int i = 0; i < 16; i++) {
                answers.add(driver.taken(i));
            }
        }
        answers.add(driver.post());
    }

    /** Which receive pages are open, and where both queues go on. */
    private static void tryDoors(RingDriver driver, List<Integer> answers) {
        for (int k = 0; k < 8; k++) {
            answers.add(driver.deviceWrite(Card.RECEIVE_BUFFERS + 16 * k, 5));
            answers.add(driver.deviceWrite(Card.RECEIVE_BUFFERS + 16 * k + 15, 5));
        }
        answers.add(driver.send(1));
        answers.add(driver.post());
        answers.add(driver.reclaim());
        answers.add(driver.receive());
        answers.add(driver.withdraw());
        answers.add(driver.post());
        answers.add(driver.revoke());
        answers.add(driver.send(1));
    }
}
