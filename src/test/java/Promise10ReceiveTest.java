final class Promise10ReceiveTest {
    public static void main(String[] args) {
        nothingToReceive();
        everyGoodLength();
        aShortFrameLeavesTheRestOfTheBox();
        wrongLengthsTakeTheSlotAndLeaveTheBox();
        framesComeInOrder();
        theDescriptorStays();
        thePageInTheDescriptorIsNotBelieved();
        Check.end();
    }

    private static void nothingToReceive() {
        RingDriver driver = new RingDriver();
        Check.due("nothing posted", driver.receive(), -1);
        driver.post();
        Card.setLength(driver, Card.RECEIVE_RING, 0, 4);
        int[] owners = {1, 2, 128, 255};
        for (int owner : owners) {
            Card.setOwner(driver, Card.RECEIVE_RING, 0, owner);
            Check.due("owner " + owner, driver.receive(), -1);
            Check.due("receiving", driver.receiving(), 1);
        }
        Card.dueWritable(driver, 0, true);
    }

    private static void everyGoodLength() {
        for (int length = 1; length <= 16; length++) {
            RingDriver driver = new RingDriver();
            driver.post();
            Card.fillReceiveBuffer(driver, 0, 101);
            Card.deliver(driver, 0, length);
            Check.due("receive", driver.receive(), length);
            for (int i = 0; i < 16; i++) {
                Check.due("taken(" + i + ")", driver.taken(i), i < length ? 101 + i : 0);
            }
            Check.due("receiving", driver.receiving(), 0);
            Card.dueWritable(driver, 0, false);
            Check.due("only once", driver.receive(), -1);
        }
    }

    private static void aShortFrameLeavesTheRestOfTheBox() {
        RingDriver driver = new RingDriver();
        Card.postMany(driver, 2, 0);
        Card.fillReceiveBuffer(driver, 0, 1);
        Card.fillReceiveBuffer(driver, 1, 201);
        Card.deliver(driver, 0, 16);
        Card.deliver(driver, 1, 3);
        Check.due("receive", driver.receive(), 16);
        Check.due("receive", driver.receive(), 3);
        Card.dueInBox(driver, 201, 202, 203, 4, 5, 6, 7, 8, 9, 10, 11, 12, 13, 14, 15, 16);
    }

    private static void wrongLengthsTakeTheSlotAndLeaveTheBox() {
        RingDriver driver = new RingDriver();
        int[] lengths = {0, 17, 18, 32, 128, 255};
        for (int slot = 0; slot < lengths.length; slot++) {
            Check.due("post", driver.post(), slot);
            Card.fillReceiveBuffer(driver, slot, 50);
            Card.deliver(driver, slot, lengths[slot]);
            Check.due("length " + lengths[slot], driver.receive(), -3);
            Check.due("receiving", driver.receiving(), 0);
            Card.dueWritable(driver, slot, false);
        }
        Card.dueInBox(driver);
    }

    private static void framesComeInOrder() {
        RingDriver driver = new RingDriver();
        Card.postMany(driver, 3, 0);
        for (int slot = 2; slot >= 0; slot--) {
            Check.due("the oldest is not back", driver.receive(), -1);
            driver.deviceWrite(256 + 16 * slot, 10 + slot);
            Card.deliver(driver, slot, 1 + slot);
        }
        for (int slot = 0; slot < 3; slot++) {
            Check.due("receive", driver.receive(), 1 + slot);
            Check.due("taken(0)", driver.taken(0), 10 + slot);
        }
    }

    private static void theDescriptorStays() {
        RingDriver driver = new RingDriver();
        Card.postMany(driver, 2, 0);
        driver.deviceWrite(71, 12);
        Card.deliver(driver, 0, 9);
        Check.due("receive", driver.receive(), 9);
        Card.dueDescriptor(driver, Card.RECEIVE_RING, 0, 16, 9, 0, 0, 0, 0, 0, 12);
    }

    private static void thePageInTheDescriptorIsNotBelieved() {
        RingDriver driver = new RingDriver();
        Card.loadAll(driver, 60);
        driver.send(16);
        Card.postMany(driver, 2, 0);
        Card.fillReceiveBuffer(driver, 0, 1);
        Card.fillReceiveBuffer(driver, 1, 30);
        driver.deviceWrite(64, 8);
        Card.deliver(driver, 0, 2);
        Check.due("receive", driver.receive(), 2);
        Card.dueInBox(driver, 1, 2);
        driver.deviceWrite(72, 255);
        Card.deliver(driver, 1, 2);
        Check.due("receive", driver.receive(), 2);
        Card.dueInBox(driver, 30, 31);
    }
}
