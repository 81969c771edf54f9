import java.util.List;
import java.util.function.Consumer;

/** States of a driver that tests of boundary cases start from; each takes fewer than 200 calls. */
final class States {
    /** The posted slots of these two are none. */
    static final List<Consumer<RingDriver>> EMPTY = List.of(States::fresh, States::emptied);
    /** All eight slots of both rings are posted and the card's. */
    static final List<Consumer<RingDriver>> FULL = List.of(States::full, States::fullRoundTheEnd);
    static final List<Consumer<RingDriver>> ALL = List.of(
        States::fresh, States::some, States::roundTheEnd, States::full,
        States::fullRoundTheEnd, States::emptied, States::scribbled);

    private States() {
    }

    static void fresh(RingDriver driver) {
        Check.due("nothing posted yet", driver.sending() + driver.receiving(), 0);
    }

    /** Brings the first slot of both queues, which are empty then, to the given one; the boxes stay 0. */
    static void startAt(RingDriver driver, int first) {
        startTransmitAt(driver, first);
        startReceiveAt(driver, first);
    }

    static void startTransmitAt(RingDriver driver, int first) {
        Card.sendMany(driver, first, 0);
        for (int slot = 0; slot < first; slot++) {
            Card.setOwner(driver, Card.TRANSMIT_RING, slot, 0);
        }
        Check.due("reclaim", driver.reclaim(), first);
    }

    static void startReceiveAt(RingDriver driver, int first) {
        Card.postMany(driver, first, 0);
        for (int slot = 0; slot < first; slot++) {
            Card.deliver(driver, slot, 4);
            Check.due("receive", driver.receive(), 4);
        }
    }

    /** Three of each; the oldest of each is given back. */
    static void some(RingDriver driver) {
        Card.loadAll(driver, 10);
        Card.sendMany(driver, 3, 0);
        Card.postMany(driver, 3, 0);
        Card.fillReceiveBuffer(driver, 0, 30);
        Card.deliver(driver, 0, 4);
        Card.setOwner(driver, Card.TRANSMIT_RING, 0, 0);
    }

    /** Five of each in slots 6, 7, 0, 1, 2, after a frame has been taken from slot 5. */
    static void roundTheEnd(RingDriver driver) {
        startAt(driver, 5);
        Card.loadAll(driver, 90);
        Card.sendMany(driver, 6, 5);
        Card.postMany(driver, 6, 5);
        Card.fillReceiveBuffer(driver, 5, 200);
        Card.deliver(driver, 5, 16);
        Check.due("receive", driver.receive(), 16);
        Card.setOwner(driver, Card.TRANSMIT_RING, 5, 0);
        Check.due("reclaim", driver.reclaim(), 1);
    }

    static void full(RingDriver driver) {
        Card.loadAll(driver, 20);
        Card.sendMany(driver, 8, 0);
        Card.postMany(driver, 8, 0);
        Card.fillReceiveBuffer(driver, 0, 70);
        Card.loadAll(driver, 50);
    }

    static void fullRoundTheEnd(RingDriver driver) {
        startAt(driver, 3);
        Card.loadAll(driver, 120);
        Card.sendMany(driver, 8, 3);
        Card.postMany(driver, 8, 3);
        Card.fillReceiveBuffer(driver, 3, 170);
        Card.loadAll(driver, 150);
    }

    /** Every slot has been used and closed; the card has marked closed descriptors since. */
    static void emptied(RingDriver driver) {
        fullRoundTheEnd(driver);
        Check.due("revoke", driver.revoke(), 8);
        Check.due("withdraw", driver.withdraw(), 8);
        Card.setLength(driver, Card.RECEIVE_RING, 3, 5);
        Card.setOwner(driver, Card.TRANSMIT_RING, 4, 9);
        Card.setOwner(driver, Card.RECEIVE_RING, 4, 9);
    }

    /** Every byte of the rings is what the card made of it, none of them 0. */
    static void scribbled(RingDriver driver) {
        some(driver);
        for (int address = 0; address < Card.TRANSMIT_BUFFERS; address++) {
            Check.due("the card scribbles", driver.deviceWrite(address, 1 + address), 0);
        }
    }
}
