import java.util.List;
import java.util.function.Consumer;

/** Promise 9, its boundary cases. */
final class Edges09PostTest {
    public static void main(String[] args) {
        Check.sentence("The next receive slot's buffer becomes zeros: after a frame was taken from it",
            Edges09PostTest::zerosAfterAFrame);
        Check.sentence("The next receive slot's buffer becomes zeros: after it was withdrawn",
            Edges09PostTest::zerosAfterWithdrawing);
        Check.sentence("The next receive slot's buffer becomes zeros: that one's alone",
            Edges09PostTest::otherBuffersStay);
        Check.sentence("it is posted with length 0: the slot: each slot from each t", Edges09PostTest::eachSlot);
        Check.sentence("-1 if eight are posted", Edges09PostTest::eightAreFull);
        Check.sentence("-1 if eight are posted: seven are not", Edges09PostTest::sevenAreNot);
        Check.sentence("-1 if eight are posted: though the card has given some back",
            Edges09PostTest::givenBackOnesAreStillPosted);
        Check.sentence("-1 if eight are posted: then nothing is posted and no buffer becomes zeros",
            Edges09PostTest::aRefusedPostChangesNothing);
        Check.end();
    }

    private static void zerosAfterAFrame() {
        RingDriver driver = new RingDriver();
        Card.loadAll(driver, 140);
        Card.postMany(driver, 8, 0);
        for (int slot = 0; slot < 8; slot++) {
            Card.fillReceiveBuffer(driver, slot, 90);
            Card.deliver(driver, slot, slot == 7 ? 255 : 16);
            driver.receive();
        }
        Card.postMany(driver, 8, 0);
        for (int slot = 0; slot < 8; slot++) {
            Card.deliver(driver, slot, 16);
            Check.due("receive", driver.receive(), 16);
            Card.dueInBox(driver);
        }
    }

    private static void zerosAfterWithdrawing() {
        RingDriver driver = new RingDriver();
        Card.loadAll(driver, 140);
        Card.postMany(driver, 8, 0);
        for (int slot = 0; slot < 8; slot++) {
            Card.fillReceiveBuffer(driver, slot, 90);
        }
        Check.due("withdraw", driver.withdraw(), 8);
        Card.postMany(driver, 8, 0);
        for (int slot = 0; slot < 8; slot++) {
            Card.deliver(driver, slot, 16);
            Check.due("receive", driver.receive(), 16);
            Card.dueInBox(driver);
        }
    }

    private static void otherBuffersStay() {
        for (int first = 0; first < 8; first++) {
            RingDriver driver = new RingDriver();
            States.startReceiveAt(driver, first);
            Card.loadAll(driver, 20);
            Check.due("send", driver.send(16), 0);
            for (int n = 0; n < 8; n++) {
                int slot = (first + n) % 8;
                Check.due("post", driver.post(), slot);
                driver.deviceWrite(256 + 16 * slot, 50 + n);
                driver.deviceWrite(256 + 16 * slot + 15, 60 + n);
            }
            for (int n = 0; n < 8; n++) {
                Card.deliver(driver, (first + n) % 8, 16);
                Check.due("receive", driver.receive(), 16);
                Check.due("first byte of " + n, driver.taken(0), 50 + n);
                Check.due("last byte of " + n, driver.taken(15), 60 + n);
            }
            Check.due("a transmit buffer", driver.deviceRead(128), 20);
            Check.due("a transmit buffer", driver.deviceRead(143), 35);
        }
    }

    private static void eachSlot() {
        for (int first = 0; first < 8; first++) {
            RingDriver driver = new RingDriver();
            States.startReceiveAt(driver, first);
            Card.scribbleOverRings(driver, 255);
            for (int n = 0; n < 8; n++) {
                int slot = (first + n) % 8;
                Card.dueWritable(driver, slot, false);
                Check.due("t " + first + ", post " + n, driver.post(), slot);
                Card.dueDescriptor(driver, Card.RECEIVE_RING, slot, 16 + slot, 0, 1, 0, 0, 0, 0, 0);
                Card.dueWritable(driver, slot, true);
                Check.due("receiving", driver.receiving(), 1 + n);
            }
        }
    }

    private static void eightAreFull() {
        for (int first = 0; first < 8; first++) {
            RingDriver driver = new RingDriver();
            States.startReceiveAt(driver, first);
            Card.postMany(driver, 8, first);
            for (int n = 0; n < 9; n++) {
                Check.due("t " + first + ", post", driver.post(), -1);
            }
            Check.due("receiving", driver.receiving(), 8);
        }
    }

    private static void sevenAreNot() {
        for (int first = 0; first < 8; first++) {
            RingDriver driver = new RingDriver();
            States.startReceiveAt(driver, first);
            Card.sendMany(driver, 8, 0);
            Card.postMany(driver, 8, first);
            Card.deliver(driver, first, 1);
            Check.due("receive", driver.receive(), 1);
            Check.due("the eighth", driver.post(), first);
            Check.due("the ninth", driver.post(), -1);
        }
    }

    private static void givenBackOnesAreStillPosted() {
        RingDriver driver = new RingDriver();
        Card.postMany(driver, 8, 0);
        Card.scribbleOverRings(driver, 0);
        Check.due("post", driver.post(), -1);
        Check.due("receiving", driver.receiving(), 8);
        Card.setLength(driver, Card.RECEIVE_RING, 0, 4);
        Check.due("receive", driver.receive(), 4);
        Check.due("post", driver.post(), 0);
    }

    private static void aRefusedPostChangesNothing() {
        List<Consumer<RingDriver>> states = List.of(
            States::full, States::fullRoundTheEnd, Edges09PostTest::fullAndScribbled);
        Twins.unchangedBy("post", states, driver -> Check.due("post", driver.post(), -1));
    }

    private static void fullAndScribbled(RingDriver driver) {
        States.fullRoundTheEnd(driver);
        Card.scribbleOverRings(driver, 2);
    }
}
