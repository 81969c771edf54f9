final class Promise09PostTest {
    public static void main(String[] args) {
        aSlotIsPostedWithLengthZero();
        theNinthSlotIsRefused();
        noOldBytesStandInTheBuffer();
        slotsGoRoundTheRing();
        Check.end();
    }

    private static void aSlotIsPostedWithLengthZero() {
        RingDriver driver = new RingDriver();
        Card.scribbleOverRings(driver, 55);
        for (int slot = 0; slot < 8; slot++) {
            Check.due("post", driver.post(), slot);
            Check.due("receiving", driver.receiving(), slot + 1);
            Card.dueDescriptor(driver, Card.RECEIVE_RING, slot, 16 + slot, 0, 1, 0, 0, 0, 0, 0);
        }
        Card.dueDescriptor(driver, Card.TRANSMIT_RING, 0, 55, 55, 55, 55, 55, 55, 55, 55);
        Check.due("sending", driver.sending(), 0);
    }

    private static void theNinthSlotIsRefused() {
        RingDriver driver = new RingDriver();
        Card.postMany(driver, 8, 0);
        Card.fillReceiveBuffer(driver, 0, 40);
        Card.deliver(driver, 0, 3);
        Check.due("post to a full ring", driver.post(), -1);
        Check.due("receiving", driver.receiving(), 8);
        Check.due("receive", driver.receive(), 3);
        Card.dueInBox(driver, 40, 41, 42);
        Check.due("post again", driver.post(), 0);
    }

    private static void noOldBytesStandInTheBuffer() {
        RingDriver driver = new RingDriver();
        Card.loadAll(driver, 90);
        Card.postMany(driver, 8, 0);
        for (int slot = 0; slot < 8; slot++) {
            Card.fillReceiveBuffer(driver, slot, 70);
        }
        Check.due("withdraw", driver.withdraw(), 8);
        driver.post();
        driver.deviceWrite(257, 5);
        Card.deliver(driver, 0, 16);
        Check.due("receive", driver.receive(), 16);
        Card.dueInBox(driver, 0, 5);
    }

    private static void slotsGoRoundTheRing() {
        RingDriver driver = new RingDriver();
        for (int i = 0; i < 30; i++) {
            int slot = i % 8;
            Check.due("post", driver.post(), slot);
            Card.dueDescriptor(driver, Card.RECEIVE_RING, slot, 16 + slot, 0, 1);
            driver.deviceWrite(256 + 16 * slot, i);
            Card.deliver(driver, slot, 1);
            Check.due("receive", driver.receive(), 1);
            Check.due("taken(0)", driver.taken(0), i);
        }
    }
}
