final class Promise01NewObjectTest {
    public static void main(String[] args) {
        nothingIsPostedAndNothingFaulted();
        ringsAndInBoxAreZero();
        outBoxIsZero();
        buffersAreClosed();
        objectsShareNothing();
        Check.end();
    }

    private static void nothingIsPostedAndNothingFaulted() {
        RingDriver driver = new RingDriver();
        Check.due("sending", driver.sending(), 0);
        Check.due("receiving", driver.receiving(), 0);
        Check.due("faults", driver.faults(), 0);
        Check.due("reclaim", driver.reclaim(), 0);
        Check.due("revoke", driver.revoke(), 0);
        Check.due("receive", driver.receive(), -1);
        Check.due("withdraw", driver.withdraw(), 0);
        Check.due("first send", driver.send(1), 0);
        Check.due("first post", driver.post(), 0);
    }

    private static void ringsAndInBoxAreZero() {
        RingDriver driver = new RingDriver();
        for (int address = 0; address < Card.TRANSMIT_BUFFERS; address++) {
            Check.due("deviceRead(" + address + ")", driver.deviceRead(address), 0);
        }
        Card.dueInBox(driver);
    }

    private static void outBoxIsZero() {
        RingDriver driver = new RingDriver();
        driver.send(16);
        for (int i = 0; i < 16; i++) {
            Check.due("byte " + i, driver.deviceRead(Card.TRANSMIT_BUFFERS + i), 0);
        }
    }

    private static void buffersAreClosed() {
        RingDriver driver = new RingDriver();
        for (int slot = 0; slot < 8; slot++) {
            Card.dueReadable(driver, slot, false);
            Card.dueWritable(driver, slot, false);
        }
    }

    private static void objectsShareNothing() {
        RingDriver used = new RingDriver();
        Card.loadAll(used, 1);
        Card.sendMany(used, 3, 0);
        Card.postMany(used, 3, 0);
        Card.fillReceiveBuffer(used, 0, 9);
        Card.deliver(used, 0, 16);
        Check.due("receive", used.receive(), 16);
        used.deviceRead(-1);
        nothingIsPostedAndNothingFaulted();
        ringsAndInBoxAreZero();
        outBoxIsZero();
        buffersAreClosed();
    }
}
